/** Makes clearing houses for the tests. */
final class Houses {
    private Houses() {
    }

    static DebtClearing with(int members) {
        DebtClearing house = new DebtClearing();
        for (int member = 0; member < members; member++) {
            house.addMember();
        }
        return house;
    }

    /** Each debt is debtor, creditor, amount. */
    static DebtClearing with(int members, int[]... debts) {
        DebtClearing house = with(members);
        for (int[] debt : debts) {
            house.addDebt(debt[0], debt[1], debt[2]);
        }
        return house;
    }

    static int[] debt(int debtor, int creditor, int amount) {
        return new int[] {debtor, creditor, amount};
    }

    static void feed(DebtClearing house, String text) {
        for (char character : text.toCharArray()) {
            house.feed(character);
        }
    }

    static Object run(DebtClearing house, String text) {
        feed(house, text);
        return Check.outcome(house::runCommands);
    }

    static String output(DebtClearing house, int length) {
        StringBuilder text = new StringBuilder();
        for (int index = 0; index < length; index++) {
            text.append(house.outputChar(index));
        }
        return text.toString();
    }

    /** All that the queries tell, so that two states can be compared. */
    static String state(DebtClearing house) {
        StringBuilder text = new StringBuilder();
        int members = house.memberCount();
        text.append(members).append(" members, haircut ").append(house.haircut());
        text.append(", netted ").append(house.nettedAmount()).append(", lost ").append(house.lostAmount());
        for (int member = 0; member < members; member++) {
            text.append("; ").append(house.coins(member)).append(' ').append(house.collateral(member));
            text.append(' ').append(house.limit(member)).append(' ').append(house.isInDefault(member));
            text.append(' ').append(house.positionByAccount(member)).append(':');
            for (int other = 0; other < members; other++) {
                text.append(' ').append(other == member ? 0 : house.owed(member, other));
            }
        }
        return text.toString();
    }
}
