import java.util.Arrays;
import java.util.NoSuchElementException;

/** A clearing house for debts between members. */
public final class DebtClearing {
    private static final int MOST_MEMBERS = 8;
    private static final int MOST_UNDOS = 8;
    private static final int MOST_CHARACTERS = 60;
    private static final int MOST_NUMBERS = 3;
    private static final int START_COINS = 30;
    private static final int START_LIMIT = 99;
    private static final int START_HAIRCUT = 20;
    private static final int MOST_AMOUNT = 99;
    private static final int MOST_COLLATERAL = 99;
    private static final int MOST_LIMIT = 500;
    private static final int MOST_HAIRCUT = 90;
    private static final int NONE = -1;

    private final Ledger ledger;
    private final Ledger before;
    private final Ledger saved;
    private final Clearing clearing;
    private final Payout payout;
    private final Network network;
    private final History history;
    private final CommandText input;
    private final StringBuilder output;
    private boolean hasSaved;
    private int latestErrorPosition;
    private int latestFailedCommand;

    public DebtClearing() {
        ledger = new Ledger();
        before = new Ledger();
        saved = new Ledger();
        clearing = new Clearing();
        payout = new Payout();
        network = new Network();
        history = new History();
        input = new CommandText();
        output = new StringBuilder();
        hasSaved = false;
        latestErrorPosition = NONE;
        latestFailedCommand = NONE;
    }

    public int addMember() throws IllegalStateException {
        throwIfRefused(Rules.onJoining(ledger));
        history.keep(ledger);
        return ledger.join();
    }

    public int addDebt(int debtor, int creditor, int amount)
            throws IndexOutOfBoundsException, IllegalArgumentException, IllegalStateException,
            UnsupportedOperationException {
        throwIfRefused(Rules.onDebt(ledger, debtor, creditor, amount));
        history.keep(ledger);
        return ledger.changeDebt(debtor, creditor, amount);
    }

    public int pay(int debtor, int creditor, int amount)
            throws IndexOutOfBoundsException, IllegalArgumentException, IllegalStateException,
            UnsupportedOperationException {
        throwIfRefused(Rules.onPayment(ledger, debtor, creditor, amount));
        history.keep(ledger);
        return ledger.payDebt(debtor, creditor, amount);
    }

    public int netPair(int first, int second) throws IndexOutOfBoundsException, IllegalArgumentException {
        throwIfRefused(Rules.onPair(ledger, first, second));
        history.keep(ledger);
        return ledger.netTwo(first, second);
    }

    public int netTriangle(int first, int second, int third)
            throws IndexOutOfBoundsException, IllegalArgumentException, IllegalStateException {
        throwIfRefused(Rules.onTriangle(ledger, first, second, third));
        history.keep(ledger);
        return ledger.netThree(first, second, third);
    }

    public int clearAll() {
        history.keep(ledger);
        return clearing.replaceDebts(ledger);
    }

    public int pledge(int member, int amount)
            throws IndexOutOfBoundsException, IllegalArgumentException, IllegalStateException {
        throwIfRefused(Rules.onPledge(ledger, member, amount));
        history.keep(ledger);
        return ledger.addCollateral(member, amount);
    }

    public int setLimit(int member, int limit)
            throws IndexOutOfBoundsException, IllegalArgumentException, IllegalStateException {
        throwIfRefused(Rules.onLimit(ledger, member, limit));
        history.keep(ledger);
        return ledger.exchangeLimit(member, limit);
    }

    public int setHaircut(int percent) throws IllegalArgumentException {
        throwIfRefused(Rules.onHaircut(percent));
        history.keep(ledger);
        return ledger.exchangeHaircut(percent);
    }

    public int declareDefault(int member) throws IndexOutOfBoundsException, IllegalStateException {
        throwIfRefused(Rules.onDefault(ledger, member));
        history.keep(ledger);
        return payout.settle(ledger, member);
    }

    public int memberCount() {
        return ledger.memberCount;
    }

    public int coins(int member) throws IndexOutOfBoundsException {
        throwIfRefused(Rules.onMember(ledger, member));
        return ledger.coins[member];
    }

    public int collateral(int member) throws IndexOutOfBoundsException {
        throwIfRefused(Rules.onMember(ledger, member));
        return ledger.collateral[member];
    }

    public int cover(int member) throws IndexOutOfBoundsException {
        throwIfRefused(Rules.onMember(ledger, member));
        return ledger.coverOf(member);
    }

    public int limit(int member) throws IndexOutOfBoundsException {
        throwIfRefused(Rules.onMember(ledger, member));
        return ledger.limits[member];
    }

    public boolean isInDefault(int member) throws IndexOutOfBoundsException {
        throwIfRefused(Rules.onMember(ledger, member));
        return ledger.defaulted[member];
    }

    public int haircut() {
        return ledger.haircut;
    }

    public int owed(int debtor, int creditor) throws IndexOutOfBoundsException, IllegalArgumentException {
        throwIfRefused(Rules.onPair(ledger, debtor, creditor));
        return ledger.amountOwed(debtor, creditor);
    }

    public int debtCount() {
        return ledger.countDebts();
    }

    public int debit(int member) throws IndexOutOfBoundsException {
        throwIfRefused(Rules.onMember(ledger, member));
        return ledger.debitOf(member);
    }

    public int credit(int member) throws IndexOutOfBoundsException {
        throwIfRefused(Rules.onMember(ledger, member));
        return ledger.creditOf(member);
    }

    public int position(int member) throws IndexOutOfBoundsException {
        throwIfRefused(Rules.onMember(ledger, member));
        return ledger.positionOf(member);
    }

    public int positionByAccount(int member) throws IndexOutOfBoundsException {
        throwIfRefused(Rules.onMember(ledger, member));
        return ledger.accounts[member];
    }

    public int totalDebt() {
        return ledger.sumOfDebts();
    }

    public int largestDebtor() throws NoSuchElementException {
        int place = ledger.placeOfLargestDebt();
        if (place == NONE) {
            throw new NoSuchElementException("there are no positive debts");
        }
        return place / MOST_MEMBERS;
    }

    public int largestCreditor() throws NoSuchElementException {
        int place = ledger.placeOfLargestDebt();
        if (place == NONE) {
            throw new NoSuchElementException("there are no positive debts");
        }
        return place % MOST_MEMBERS;
    }

    public int triangles() {
        return network.countTriangles(ledger);
    }

    public int trianglesByProduct() {
        return network.countTrianglesByProduct(ledger);
    }

    public int reachCount(int member) throws IndexOutOfBoundsException {
        throwIfRefused(Rules.onMember(ledger, member));
        return network.countReached(ledger, member);
    }

    public int reachCountByRounds(int member) throws IndexOutOfBoundsException {
        throwIfRefused(Rules.onMember(ledger, member));
        return network.countReachedByRounds(ledger, member);
    }

    public boolean reaches(int from, int to) throws IndexOutOfBoundsException, IllegalArgumentException {
        throwIfRefused(Rules.onPair(ledger, from, to));
        return network.isReached(ledger, from, to);
    }

    public int debtsAfterClearing() {
        return clearing.countNewDebts(ledger);
    }

    public int lossIfDefault(int member) throws IndexOutOfBoundsException, IllegalStateException {
        throwIfRefused(Rules.onDefault(ledger, member));
        return ledger.lossOf(member);
    }

    public int shareIfDefault(int member, int creditor)
            throws IndexOutOfBoundsException, IllegalArgumentException, IllegalStateException {
        throwIfRefused(Rules.onPair(ledger, member, creditor));
        throwIfRefused(Rules.onDefault(ledger, member));
        return payout.shareOf(ledger, member, creditor);
    }

    public int memberByPosition(int rank) throws NoSuchElementException {
        int member = ledger.memberAtRank(rank);
        if (member == NONE) {
            throw new NoSuchElementException("there is no such rank");
        }
        return member;
    }

    public int nettedAmount() {
        return ledger.netted;
    }

    public int lostAmount() {
        return ledger.lost;
    }

    public double meanPosition() throws ArithmeticException {
        if (ledger.memberCount == 0) {
            throw new ArithmeticException("there are no members");
        }
        return (double) ledger.sumOfAbsolutePositions() / (double) ledger.memberCount;
    }

    public float debtShare() throws ArithmeticException {
        int members = ledger.memberCount;
        if (members < 2) {
            throw new ArithmeticException("there are fewer than 2 members");
        }
        return (float) ledger.countDebts() / (float) (members * (members - 1));
    }

    public boolean isConsistent() {
        return ledger.hasSoundAccounts() && network.agreesBothWays(ledger);
    }

    public int feed(char character) throws IllegalStateException {
        if (input.isFull()) {
            throw new IllegalStateException("the input buffer is full");
        }
        return input.append(character);
    }

    public int runCommands() throws IllegalArgumentException, UnsupportedOperationException {
        int error = input.findError();
        if (error != NONE) {
            latestErrorPosition = error;
            input.empty();
            throw new IllegalArgumentException("the text is malformed");
        }
        before.copyFrom(ledger);
        int failed = carryOutUntilRefusal();
        int count = input.commandCount;
        input.empty();
        if (failed != NONE) {
            latestFailedCommand = failed;
            ledger.copyFrom(before);
            throw new UnsupportedOperationException("a command failed");
        }
        history.keep(before);
        return count;
    }

    public int errorPosition() throws NoSuchElementException {
        if (latestErrorPosition == NONE) {
            throw new NoSuchElementException("no text was malformed");
        }
        return latestErrorPosition;
    }

    public int failedCommand() throws NoSuchElementException {
        if (latestFailedCommand == NONE) {
            throw new NoSuchElementException("no command failed");
        }
        return latestFailedCommand;
    }

    public int writeDebts(int member) throws IndexOutOfBoundsException {
        throwIfRefused(Rules.onMember(ledger, member));
        output.setLength(0);
        output.append(ledger.coins[member]).append('c');
        if (ledger.defaulted[member]) {
            output.append('!');
        }
        for (int creditor = 0; creditor < MOST_MEMBERS; creditor++) {
            int amount = ledger.amountOwed(member, creditor);
            if (amount > 0) {
                output.append(' ').append('>').append(creditor).append(':').append(amount);
            }
        }
        return output.length();
    }

    public char outputChar(int index) throws IndexOutOfBoundsException {
        if (index < 0 || index >= output.length()) {
            throw new IndexOutOfBoundsException("there is no such character");
        }
        return output.charAt(index);
    }

    public int undoCount() {
        return history.count;
    }

    public int undo() throws IllegalStateException {
        if (history.count == 0) {
            throw new IllegalStateException("no call can be undone");
        }
        return history.bringBack(ledger);
    }

    public int save() {
        saved.copyFrom(ledger);
        hasSaved = true;
        return ledger.memberCount;
    }

    public int restore() throws IllegalStateException {
        if (!hasSaved) {
            throw new IllegalStateException("no state was saved");
        }
        ledger.copyFrom(saved);
        history.forget();
        return ledger.memberCount;
    }

    private static void throwIfRefused(Refusal refusal) {
        if (refusal == Refusal.NO_MEMBER) {
            throw new IndexOutOfBoundsException("there is no such member");
        }
        if (refusal == Refusal.BAD_ARGUMENT) {
            throw new IllegalArgumentException("the members or the number cannot be taken");
        }
        if (refusal == Refusal.BAD_STATE) {
            throw new IllegalStateException("the state does not allow it");
        }
        if (refusal == Refusal.NOT_SUPPORTED) {
            throw new UnsupportedOperationException("the limit or the coins do not allow it");
        }
    }

    /** Returns the index of the first command that is refused, or NONE. */
    private int carryOutUntilRefusal() {
        int start = 0;
        for (int index = 0; index < input.commandCount; index++) {
            Command command = input.commandAt(start);
            if (command == null || refusalOf(command) != Refusal.NOTHING) {
                return index;
            }
            carryOut(command);
            start = input.end + 1;
        }
        return NONE;
    }

    private Refusal refusalOf(Command command) {
        int first = input.numberAt(0);
        int second = input.numberAt(1);
        int third = input.numberAt(2);
        switch (command) {
            case MEMBER:
                return Rules.onJoining(ledger);
            case DEBT:
                return Rules.onDebt(ledger, first, second, third);
            case PAY:
                return Rules.onPayment(ledger, first, second, third);
            case NET:
                return Rules.onPair(ledger, first, second);
            case RING:
                return Rules.onTriangle(ledger, first, second, third);
            case PLEDGE:
                return Rules.onPledge(ledger, first, second);
            case FAIL:
                return Rules.onDefault(ledger, first);
            default:
                return Refusal.NOTHING;
        }
    }

    private void carryOut(Command command) {
        int first = input.numberAt(0);
        int second = input.numberAt(1);
        int third = input.numberAt(2);
        switch (command) {
            case MEMBER:
                ledger.join();
                break;
            case DEBT:
                ledger.changeDebt(first, second, third);
                break;
            case PAY:
                ledger.payDebt(first, second, third);
                break;
            case NET:
                ledger.netTwo(first, second);
                break;
            case RING:
                ledger.netThree(first, second, third);
                break;
            case CLEAR:
                clearing.replaceDebts(ledger);
                break;
            case PLEDGE:
                ledger.addCollateral(first, second);
                break;
            case FAIL:
                payout.settle(ledger, first);
                break;
            default:
                break;
        }
    }

    /** Why a call is refused. The document's order of exceptions is the order of the tests in Rules. */
    private enum Refusal {
        NOTHING, NO_MEMBER, BAD_ARGUMENT, BAD_STATE, NOT_SUPPORTED
    }

    /** The commands with their forms: '#' stands for one digit, '@' for an amount of one or two digits. */
    private enum Command {
        MEMBER("member"),
        DEBT("debt # # @"),
        PAY("pay # # @"),
        NET("net # #"),
        RING("ring ###"),
        CLEAR("clear"),
        PLEDGE("pledge # @"),
        FAIL("fail #");

        private final String form;

        Command(String form) {
            this.form = form;
        }
    }

    /** All that undo and restore bring back. Its callers ask Rules before they change it. */
    private static final class Ledger {
        private final int[] amounts = new int[MOST_MEMBERS * MOST_MEMBERS];
        private final int[] coins = new int[MOST_MEMBERS];
        private final int[] collateral = new int[MOST_MEMBERS];
        private final int[] limits = new int[MOST_MEMBERS];
        private final int[] accounts = new int[MOST_MEMBERS];
        private final boolean[] defaulted = new boolean[MOST_MEMBERS];
        private int memberCount = 0;
        private int haircut = START_HAIRCUT;
        private int netted = 0;
        private int lost = 0;

        void copyFrom(Ledger other) {
            System.arraycopy(other.amounts, 0, amounts, 0, MOST_MEMBERS * MOST_MEMBERS);
            System.arraycopy(other.coins, 0, coins, 0, MOST_MEMBERS);
            System.arraycopy(other.collateral, 0, collateral, 0, MOST_MEMBERS);
            System.arraycopy(other.limits, 0, limits, 0, MOST_MEMBERS);
            System.arraycopy(other.accounts, 0, accounts, 0, MOST_MEMBERS);
            for (int member = 0; member < MOST_MEMBERS; member++) {
                defaulted[member] = other.defaulted[member];
            }
            memberCount = other.memberCount;
            haircut = other.haircut;
            netted = other.netted;
            lost = other.lost;
        }

        boolean hasMember(int member) {
            return member >= 0 && member < memberCount;
        }

        int amountOwed(int debtor, int creditor) {
            return amounts[debtor * MOST_MEMBERS + creditor];
        }

        int debitOf(int member) {
            int sum = 0;
            for (int other = 0; other < MOST_MEMBERS; other++) {
                sum += amountOwed(member, other);
            }
            return sum;
        }

        int creditOf(int member) {
            int sum = 0;
            for (int other = 0; other < MOST_MEMBERS; other++) {
                sum += amountOwed(other, member);
            }
            return sum;
        }

        int positionOf(int member) {
            return creditOf(member) - debitOf(member);
        }

        int coverOf(int member) {
            return collateral[member] * (100 - haircut) / 100;
        }

        int meansOf(int member) {
            return coins[member] + coverOf(member);
        }

        int lossOf(int member) {
            return debitOf(member) - meansOf(member);
        }

        int countDebts() {
            int count = 0;
            for (int place = 0; place < amounts.length; place++) {
                if (amounts[place] > 0) {
                    count++;
                }
            }
            return count;
        }

        int sumOfDebts() {
            int sum = 0;
            for (int place = 0; place < amounts.length; place++) {
                sum += amounts[place];
            }
            return sum;
        }

        /** Returns the debtor times MOST_MEMBERS plus the creditor, or NONE without a positive debt. */
        int placeOfLargestDebt() {
            int largest = 0;
            int found = NONE;
            for (int place = 0; place < amounts.length; place++) {
                if (amounts[place] > largest) {
                    largest = amounts[place];
                    found = place;
                }
            }
            return found;
        }

        int sumOfAbsolutePositions() {
            int sum = 0;
            for (int member = 0; member < memberCount; member++) {
                sum += Math.abs(positionOf(member));
            }
            return sum;
        }

        boolean hasSoundAccounts() {
            int sum = 0;
            for (int member = 0; member < memberCount; member++) {
                int position = positionOf(member);
                if (position != accounts[member]) {
                    return false;
                }
                sum += position;
            }
            return sum == 0;
        }

        int memberAtRank(int rank) {
            for (int member = 0; member < memberCount; member++) {
                if (countAhead(member) == rank) {
                    return member;
                }
            }
            return NONE;
        }

        private int countAhead(int member) {
            int count = 0;
            for (int other = 0; other < memberCount; other++) {
                if (isAhead(other, member)) {
                    count++;
                }
            }
            return count;
        }

        private boolean isAhead(int one, int other) {
            int byPosition = Integer.compare(positionOf(one), positionOf(other));
            if (byPosition != 0) {
                return byPosition > 0;
            }
            if (coins[one] != coins[other]) {
                return coins[one] > coins[other];
            }
            return one < other;
        }

        int join() {
            int member = memberCount;
            coins[member] = START_COINS;
            limits[member] = START_LIMIT;
            memberCount++;
            return member;
        }

        /** Every change of a debt goes through here, so that the accounts follow. */
        int changeDebt(int debtor, int creditor, int by) {
            amounts[debtor * MOST_MEMBERS + creditor] += by;
            accounts[debtor] -= by;
            accounts[creditor] += by;
            return amountOwed(debtor, creditor);
        }

        int payDebt(int debtor, int creditor, int amount) {
            coins[debtor] -= amount;
            coins[creditor] += amount;
            return changeDebt(debtor, creditor, -amount);
        }

        int netTwo(int first, int second) {
            int smaller = Math.min(amountOwed(first, second), amountOwed(second, first));
            changeDebt(first, second, -smaller);
            changeDebt(second, first, -smaller);
            netted += 2 * smaller;
            return smaller;
        }

        int netThree(int first, int second, int third) {
            int smaller = Math.min(amountOwed(first, second), amountOwed(second, third));
            int smallest = Math.min(smaller, amountOwed(third, first));
            changeDebt(first, second, -smallest);
            changeDebt(second, third, -smallest);
            changeDebt(third, first, -smallest);
            netted += 3 * smallest;
            return smallest;
        }

        int addCollateral(int member, int amount) {
            collateral[member] += amount;
            return collateral[member];
        }

        int exchangeLimit(int member, int limit) {
            int previous = limits[member];
            limits[member] = limit;
            return previous;
        }

        int exchangeHaircut(int percent) {
            int previous = haircut;
            haircut = percent;
            return previous;
        }

        void forgiveDebts(int debtor) {
            for (int creditor = 0; creditor < MOST_MEMBERS; creditor++) {
                changeDebt(debtor, creditor, -amountOwed(debtor, creditor));
            }
        }
    }

    /** Tells why a change would be refused, the exception that the document lists first before the others. */
    private static final class Rules {
        static Refusal onMember(Ledger ledger, int member) {
            return ledger.hasMember(member) ? Refusal.NOTHING : Refusal.NO_MEMBER;
        }

        static Refusal onPair(Ledger ledger, int first, int second) {
            if (!ledger.hasMember(first) || !ledger.hasMember(second)) {
                return Refusal.NO_MEMBER;
            }
            return first == second ? Refusal.BAD_ARGUMENT : Refusal.NOTHING;
        }

        static Refusal onJoining(Ledger ledger) {
            return ledger.memberCount < MOST_MEMBERS ? Refusal.NOTHING : Refusal.BAD_STATE;
        }

        static Refusal onDebt(Ledger ledger, int debtor, int creditor, int amount) {
            Refusal refusal = onPairAndAmount(ledger, debtor, creditor, amount);
            if (refusal != Refusal.NOTHING) {
                return refusal;
            }
            if (ledger.defaulted[debtor]) {
                return Refusal.BAD_STATE;
            }
            boolean isTooMuch = ledger.debitOf(debtor) + amount > ledger.limits[debtor];
            return isTooMuch ? Refusal.NOT_SUPPORTED : Refusal.NOTHING;
        }

        static Refusal onPayment(Ledger ledger, int debtor, int creditor, int amount) {
            Refusal refusal = onPairAndAmount(ledger, debtor, creditor, amount);
            if (refusal != Refusal.NOTHING) {
                return refusal;
            }
            if (ledger.amountOwed(debtor, creditor) < amount) {
                return Refusal.BAD_STATE;
            }
            return ledger.coins[debtor] < amount ? Refusal.NOT_SUPPORTED : Refusal.NOTHING;
        }

        private static Refusal onPairAndAmount(Ledger ledger, int first, int second, int amount) {
            Refusal refusal = onPair(ledger, first, second);
            if (refusal != Refusal.NOTHING) {
                return refusal;
            }
            return isAmount(amount) ? Refusal.NOTHING : Refusal.BAD_ARGUMENT;
        }

        static Refusal onTriangle(Ledger ledger, int first, int second, int third) {
            if (!ledger.hasMember(first) || !ledger.hasMember(second) || !ledger.hasMember(third)) {
                return Refusal.NO_MEMBER;
            }
            if (first == second || second == third || third == first) {
                return Refusal.BAD_ARGUMENT;
            }
            boolean isTriangle = ledger.amountOwed(first, second) > 0
                    && ledger.amountOwed(second, third) > 0
                    && ledger.amountOwed(third, first) > 0;
            return isTriangle ? Refusal.NOTHING : Refusal.BAD_STATE;
        }

        static Refusal onPledge(Ledger ledger, int member, int amount) {
            if (!ledger.hasMember(member)) {
                return Refusal.NO_MEMBER;
            }
            if (!isAmount(amount)) {
                return Refusal.BAD_ARGUMENT;
            }
            boolean isTooMuch = ledger.collateral[member] + amount > MOST_COLLATERAL;
            return isTooMuch ? Refusal.BAD_STATE : Refusal.NOTHING;
        }

        static Refusal onLimit(Ledger ledger, int member, int limit) {
            if (!ledger.hasMember(member)) {
                return Refusal.NO_MEMBER;
            }
            if (limit < 0 || limit > MOST_LIMIT) {
                return Refusal.BAD_ARGUMENT;
            }
            return ledger.debitOf(member) > limit ? Refusal.BAD_STATE : Refusal.NOTHING;
        }

        static Refusal onHaircut(int percent) {
            return percent < 0 || percent > MOST_HAIRCUT ? Refusal.BAD_ARGUMENT : Refusal.NOTHING;
        }

        static Refusal onDefault(Ledger ledger, int member) {
            if (!ledger.hasMember(member)) {
                return Refusal.NO_MEMBER;
            }
            boolean canDefault = !ledger.defaulted[member] && ledger.lossOf(member) > 0;
            return canDefault ? Refusal.NOTHING : Refusal.BAD_STATE;
        }

        private static boolean isAmount(int amount) {
            return amount >= 1 && amount <= MOST_AMOUNT;
        }
    }

    /** Finds the debts that replace all others when they are cleared. */
    private static final class Clearing {
        private final int[] open = new int[MOST_MEMBERS];
        private int debtor = 0;
        private int creditor = 0;
        private int amount = 0;

        int replaceDebts(Ledger ledger) {
            openPositions(ledger);
            for (int member = 0; member < MOST_MEMBERS; member++) {
                ledger.forgiveDebts(member);
            }
            int made = 0;
            // A debt settles at least one of its two members, so there are fewer debts than members.
            while (made < MOST_MEMBERS && findDebt()) {
                ledger.changeDebt(debtor, creditor, amount);
                made++;
            }
            return made;
        }

        int countNewDebts(Ledger ledger) {
            openPositions(ledger);
            int found = 0;
            while (found < MOST_MEMBERS && findDebt()) {
                found++;
            }
            return found;
        }

        private void openPositions(Ledger ledger) {
            for (int member = 0; member < MOST_MEMBERS; member++) {
                open[member] = ledger.positionOf(member);
            }
        }

        private boolean findDebt() {
            debtor = 0;
            creditor = 0;
            for (int member = 1; member < MOST_MEMBERS; member++) {
                if (open[member] < open[debtor]) {
                    debtor = member;
                }
                if (open[member] > open[creditor]) {
                    creditor = member;
                }
            }
            amount = Math.min(-open[debtor], open[creditor]);
            open[debtor] += amount;
            open[creditor] -= amount;
            return amount > 0;
        }
    }

    /** Divides the means of a member in default among its creditors by the largest remainders. */
    private static final class Payout {
        private final int[] shares = new int[MOST_MEMBERS];
        private final int[] remainders = new int[MOST_MEMBERS];

        int settle(Ledger ledger, int member) {
            int loss = ledger.lossOf(member);
            divide(ledger, member);
            for (int creditor = 0; creditor < MOST_MEMBERS; creditor++) {
                ledger.coins[creditor] += shares[creditor];
            }
            ledger.coins[member] = 0;
            ledger.collateral[member] = 0;
            ledger.forgiveDebts(member);
            ledger.defaulted[member] = true;
            ledger.lost += loss;
            return loss;
        }

        int shareOf(Ledger ledger, int member, int creditor) {
            divide(ledger, member);
            return shares[creditor];
        }

        private void divide(Ledger ledger, int member) {
            Arrays.fill(shares, 0);
            int debit = ledger.debitOf(member);
            if (debit <= 0) {
                return;
            }
            int means = ledger.meansOf(member);
            int left = means;
            for (int creditor = 0; creditor < MOST_MEMBERS; creditor++) {
                int product = means * ledger.amountOwed(member, creditor);
                shares[creditor] = product / debit;
                remainders[creditor] = product % debit;
                left -= shares[creditor];
            }
            giveOneByOne(left);
        }

        /** The remainders add up to the coins left times the debit, so each coin finds one that is not 0. */
        private void giveOneByOne(int left) {
            for (int given = 0; given < left; given++) {
                int creditor = 0;
                for (int other = 1; other < MOST_MEMBERS; other++) {
                    if (remainders[other] > remainders[creditor]) {
                        creditor = other;
                    }
                }
                shares[creditor]++;
                remainders[creditor] = 0;
            }
        }
    }

    /** The members joined by positive debts, without regard to the amounts. */
    private static final class Network {
        private final int[] matrix = new int[MOST_MEMBERS * MOST_MEMBERS];
        private final int[] square = new int[MOST_MEMBERS * MOST_MEMBERS];
        private final int[] cube = new int[MOST_MEMBERS * MOST_MEMBERS];
        private final int[] queue = new int[MOST_MEMBERS];
        private final int[] sets = new int[MOST_MEMBERS];

        boolean agreesBothWays(Ledger ledger) {
            for (int member = 0; member < ledger.memberCount; member++) {
                if (countReached(ledger, member) != countReachedByRounds(ledger, member)) {
                    return false;
                }
            }
            return countTriangles(ledger) == countTrianglesByProduct(ledger);
        }

        /** The first member is the least one of the three, so that each triangle counts once. */
        int countTriangles(Ledger ledger) {
            drawMatrix(ledger);
            int count = 0;
            for (int first = 0; first < MOST_MEMBERS; first++) {
                for (int second = first + 1; second < MOST_MEMBERS; second++) {
                    for (int third = first + 1; third < MOST_MEMBERS; third++) {
                        if (owes(first, second) && owes(second, third) && owes(third, first)) {
                            count++;
                        }
                    }
                }
            }
            return count;
        }

        int countTrianglesByProduct(Ledger ledger) {
            drawMatrix(ledger);
            multiply(matrix, matrix, square);
            multiply(square, matrix, cube);
            int sum = 0;
            for (int member = 0; member < MOST_MEMBERS; member++) {
                sum += cube[member * MOST_MEMBERS + member];
            }
            return sum / 3;
        }

        int countReached(Ledger ledger, int member) {
            drawMatrix(ledger);
            return Integer.bitCount(follow(member)) - 1;
        }

        boolean isReached(Ledger ledger, int from, int to) {
            drawMatrix(ledger);
            return (follow(from) & (1 << to)) != 0;
        }

        int countReachedByRounds(Ledger ledger, int member) {
            drawMatrix(ledger);
            startSets();
            boolean hasChanged = true;
            // Each round but the last adds a bit, and there is one bit for each pair.
            for (int round = 0; hasChanged && round <= MOST_MEMBERS * MOST_MEMBERS; round++) {
                hasChanged = joinSets();
            }
            return Integer.bitCount(sets[member] & ~(1 << member));
        }

        private void drawMatrix(Ledger ledger) {
            for (int place = 0; place < MOST_MEMBERS * MOST_MEMBERS; place++) {
                matrix[place] = ledger.amounts[place] > 0 ? 1 : 0;
            }
        }

        private boolean owes(int debtor, int creditor) {
            return matrix[debtor * MOST_MEMBERS + creditor] == 1;
        }

        private static void multiply(int[] left, int[] right, int[] product) {
            for (int row = 0; row < MOST_MEMBERS; row++) {
                for (int column = 0; column < MOST_MEMBERS; column++) {
                    int sum = 0;
                    for (int step = 0; step < MOST_MEMBERS; step++) {
                        sum += left[row * MOST_MEMBERS + step] * right[step * MOST_MEMBERS + column];
                    }
                    product[row * MOST_MEMBERS + column] = sum;
                }
            }
        }

        /** Returns a bit for the member itself and for each member that it reaches. */
        private int follow(int member) {
            int reached = 1 << member;
            int found = 1;
            queue[0] = member;
            for (int next = 0; next < found && next < MOST_MEMBERS; next++) {
                for (int creditor = 0; creditor < MOST_MEMBERS; creditor++) {
                    boolean isNew = (reached & (1 << creditor)) == 0;
                    if (isNew && owes(queue[next], creditor) && found < MOST_MEMBERS) {
                        reached |= 1 << creditor;
                        queue[found] = creditor;
                        found++;
                    }
                }
            }
            return reached;
        }

        private void startSets() {
            for (int member = 0; member < MOST_MEMBERS; member++) {
                sets[member] = 0;
                for (int creditor = 0; creditor < MOST_MEMBERS; creditor++) {
                    if (owes(member, creditor)) {
                        sets[member] |= 1 << creditor;
                    }
                }
            }
        }

        private boolean joinSets() {
            boolean hasChanged = false;
            for (int member = 0; member < MOST_MEMBERS; member++) {
                int joined = sets[member];
                for (int other = 0; other < MOST_MEMBERS; other++) {
                    if ((sets[member] & (1 << other)) != 0) {
                        joined |= sets[other];
                    }
                }
                if (joined != sets[member]) {
                    sets[member] = joined;
                    hasChanged = true;
                }
            }
            return hasChanged;
        }
    }

    /** The states before the latest recorded calls, in a ring that is made once. */
    private static final class History {
        private final Ledger[] states = new Ledger[MOST_UNDOS];
        private int next = 0;
        private int count = 0;

        History() {
            for (int index = 0; index < MOST_UNDOS; index++) {
                states[index] = new Ledger();
            }
        }

        void keep(Ledger state) {
            states[next].copyFrom(state);
            next = (next + 1) % MOST_UNDOS;
            count = Math.min(count + 1, MOST_UNDOS);
        }

        int bringBack(Ledger target) {
            next = (next + MOST_UNDOS - 1) % MOST_UNDOS;
            target.copyFrom(states[next]);
            count--;
            return count;
        }

        void forget() {
            count = 0;
        }
    }

    /** The input buffer and the reading of commands in it. */
    private static final class CommandText {
        private static final Command[] COMMANDS = Command.values();
        private final char[] characters = new char[MOST_CHARACTERS];
        private final int[] numbers = new int[MOST_NUMBERS];
        private int length = 0;
        private int numberCount = 0;
        private int commandCount = 0;
        private int reached = 0;
        private int end = 0;

        boolean isFull() {
            return length >= MOST_CHARACTERS;
        }

        int append(char character) {
            characters[length] = character;
            length++;
            return length;
        }

        void empty() {
            length = 0;
        }

        int numberAt(int index) {
            return index < numberCount ? numbers[index] : NONE;
        }

        /** Counts the commands and returns the error position, or NONE if the text is well-formed. */
        int findError() {
            commandCount = 0;
            int start = 0;
            for (int count = 1; count <= MOST_CHARACTERS; count++) {
                if (commandAt(start) == null) {
                    return end;
                }
                commandCount = count;
                if (end == length) {
                    return NONE;
                }
                if (!hasAt(end, ';')) {
                    return end;
                }
                start = end + 1;
            }
            return length;
        }

        /** Reads a command; end is then behind it, or, if there is none, where the text leaves every form. */
        Command commandAt(int start) {
            end = start;
            for (int index = 0; index < COMMANDS.length; index++) {
                boolean isWhole = follows(COMMANDS[index].form, start);
                end = Math.max(end, reached);
                if (isWhole) {
                    return COMMANDS[index];
                }
            }
            return null;
        }

        private boolean follows(String form, int start) {
            reached = start;
            numberCount = 0;
            for (int index = 0; index < form.length(); index++) {
                char part = form.charAt(index);
                boolean isNumber = part == '#' || part == '@';
                if (isNumber ? !hasDigitAt(reached) : !hasAt(reached, part)) {
                    return false;
                }
                if (isNumber) {
                    readNumber(part == '@');
                } else {
                    reached++;
                }
            }
            return true;
        }

        private void readNumber(boolean mayHaveTwoDigits) {
            int number = characters[reached] - '0';
            reached++;
            if (mayHaveTwoDigits && hasDigitAt(reached)) {
                number = number * 10 + characters[reached] - '0';
                reached++;
            }
            if (numberCount < MOST_NUMBERS) {
                numbers[numberCount] = number;
                numberCount++;
            }
        }

        private boolean hasAt(int index, char character) {
            return index < length && characters[index] == character;
        }

        private boolean hasDigitAt(int index) {
            return index < length && characters[index] >= '0' && characters[index] <= '9';
        }
    }
}
