import java.util.ArrayList;
import java.util.Comparator;
import java.util.List;

/** The document's "Terms" but for commands and undo: a test for each sentence with a bound or an exception to a rule. */
public final class TermsTest {
    private static final Class<IllegalStateException> BAD_STATE = IllegalStateException.class;
    private static final Class<UnsupportedOperationException> UNSUPPORTED = UnsupportedOperationException.class;

    public static void main(String[] args) {
        atMostEightMembersExist();
        indicesFollowTheOrderAndNeverChange();
        aMemberStartsFresh();
        aMemberStartsFreshAfterUndoAndRestore();
        amountsAreAtLeast0();
        bothDirectionsAreSeparate();
        debitAndCreditAreSums();
        theHaircutIsInitially20();
        coverIsRoundedDown();
        eachDebtOfATriangleIsPositive();
        oppositeTrianglesDiffer();
        clearingKeepsPositions();
        clearingTakesTheLeastIndex();
        clearingTakesTheSmallerAmount();
        clearingStopsAt0();
        sharesAreRoundedDown();
        coinsLeftGoToTheLargestRemainders();
        equalRemaindersGoToTheLowerIndex();
        noCoinsAreDivided();
        coinsAndCoverAreDivided();
        onlyCreditorsGetCoins();
        afterADefaultNothingIsLeft();
        whatOthersOweStays();
        reachFollowsPositiveDebts();
        inDefaultStaysInDefault();
        inDefaultMayPledge();
        inDefaultMayBeACreditor();
        sharesAreAddedToTheCoins();
        Check.finish();
    }

    private static void atMostEightMembersExist() {
        DebtClearing house = new DebtClearing();
        for (int member = 0; member < 8; member++) {
            Check.same("members", house.memberCount(), member);
            house.addMember();
        }
        Check.same("eight members", house.memberCount(), 8);
        Check.throwing("a ninth", BAD_STATE, house::addMember);
        Check.same("a ninth by command", Houses.run(house, "member"), UNSUPPORTED);
        house.undo();
        Check.same("the eighth again", house.addMember(), 7);
        Check.throwing("a ninth after undo", BAD_STATE, house::addMember);
        house.save();
        house.restore();
        Check.throwing("a ninth after restore", BAD_STATE, house::addMember);
        Check.same("still eight", house.memberCount(), 8);
    }

    private static void indicesFollowTheOrderAndNeverChange() {
        DebtClearing house = Houses.with(3, Houses.debt(1, 2, 50), Houses.debt(0, 2, 3));
        for (int member = 0; member < 3; member++) {
            house.pledge(member, 10 + member);
        }
        house.declareDefault(1);
        house.pledge(1, 11);
        house.clearAll();
        Check.same("the next index", house.addMember(), 3);
        Check.same("by command", Houses.run(house, "member;pledge 4 14"), 2);
        house.pledge(3, 13);
        for (int member = 0; member < 5; member++) {
            Check.same("collateral of " + member, house.collateral(member), 10 + member);
        }
    }

    private static void aMemberStartsFresh() {
        DebtClearing house = new DebtClearing();
        house.setHaircut(90);
        for (int member = 0; member < 8; member++) {
            house.addMember();
            fresh(house, member);
            house.pledge(member, 5);
        }
    }

    private static void fresh(DebtClearing house, int member) {
        Check.same("coins", house.coins(member), 30);
        Check.same("collateral", house.collateral(member), 0);
        Check.same("cover", house.cover(member), 0);
        Check.same("limit", house.limit(member), 99);
        Check.same("in default", house.isInDefault(member), false);
        Check.same("debit", house.debit(member), 0);
        Check.same("credit", house.credit(member), 0);
        Check.same("position", house.position(member), 0);
        Check.same("account", house.positionByAccount(member), 0);
        Check.same("reach", house.reachCount(member), 0);
    }

    private static void aMemberStartsFreshAfterUndoAndRestore() {
        DebtClearing house = Houses.with(1);
        house.save();
        use(house);
        for (int undone = 0; undone < 8; undone++) {
            house.undo();
        }
        Check.same("joined again after undo", house.addMember(), 1);
        fresh(house, 1);
        house.undo();
        use(house);
        house.restore();
        Check.same("joined again after restore", house.addMember(), 1);
        fresh(house, 1);
        house.restore();
        Check.same("a failing text", Houses.run(house, "member;debt 1 0 40;debt 0 1 9;fail 1;pledge 1 9;fail 1"),
                UNSUPPORTED);
        Check.same("joined again after a failure", house.addMember(), 1);
        fresh(house, 1);
    }

    private static void use(DebtClearing house) {
        house.addMember();
        house.setLimit(1, 300);
        house.addDebt(1, 0, 99);
        house.addDebt(0, 1, 9);
        house.netPair(0, 1);
        house.pay(1, 0, 5);
        house.declareDefault(1);
        house.pledge(1, 99);
    }

    private static void amountsAreAtLeast0() {
        DebtClearing house = Houses.with(2, Houses.debt(0, 1, 9), Houses.debt(1, 0, 9));
        house.pay(0, 1, 9);
        Check.same("paid to 0", house.owed(0, 1), 0);
        Check.throwing("not below", BAD_STATE, () -> house.pay(0, 1, 1));
        house.addDebt(0, 1, 4);
        Check.same("netted to 0", house.netPair(0, 1), 4);
        Check.same("the smaller one", house.owed(0, 1), 0);
        Check.same("the greater one", house.owed(1, 0), 5);
        Check.same("netted again", house.netPair(0, 1), 0);
        Check.same("the greater one stays", house.owed(1, 0), 5);
    }

    private static void bothDirectionsAreSeparate() {
        DebtClearing house = Houses.with(8);
        for (int debtor = 0; debtor < 8; debtor++) {
            for (int creditor = 0; creditor < 8; creditor++) {
                if (debtor != creditor) {
                    house.addDebt(debtor, creditor, 1 + (debtor * 8 + creditor) % 13);
                }
            }
        }
        for (int place = 0; place < 64; place++) {
            if (place / 8 != place % 8) {
                Check.same("debt " + place, house.owed(place / 8, place % 8), 1 + place % 13);
            }
        }
        Check.same("all of them", house.debtCount(), 56);
    }

    private static void debitAndCreditAreSums() {
        DebtClearing house = Houses.with(8);
        for (int member = 1; member < 8; member++) {
            house.addDebt(0, member, member);
            house.addDebt(member, 0, 2 * member);
        }
        Check.same("debit", house.debit(0), 28);
        Check.same("credit", house.credit(0), 56);
        Check.same("position is credit minus debit", house.position(0), 28);
        Check.same("account", house.positionByAccount(0), 28);
        Check.same("a position below 0", house.position(7), -7);
        Check.same("account below 0", house.positionByAccount(7), -7);
        house.netPair(0, 7);
        Check.same("debit after netting", house.debit(0), 21);
        Check.same("position stays", house.position(0), 28);
        Check.same("total", house.totalDebt(), 70);
    }

    private static void theHaircutIsInitially20() {
        DebtClearing house = new DebtClearing();
        Check.same("haircut", house.haircut(), 20);
        Check.same("previous haircut", house.setHaircut(0), 20);
        Check.same("least haircut", house.haircut(), 0);
        house.setHaircut(90);
        Check.same("greatest haircut", house.haircut(), 90);
    }

    private static void coverIsRoundedDown() {
        for (int collateral = 0; collateral <= 99; collateral++) {
            DebtClearing house = Houses.with(1);
            if (collateral > 0) {
                house.pledge(0, collateral);
            }
            for (int percent = 0; percent <= 90; percent++) {
                house.setHaircut(percent);
                int want = (int) Math.floor((double) collateral * (100 - percent) / 100);
                if (house.cover(0) != want) {
                    Check.same("cover of " + collateral + " with " + percent, house.cover(0), want);
                }
            }
        }
        DebtClearing house = Houses.with(1);
        house.pledge(0, 99);
        Check.same("79.2", house.cover(0), 79);
        house.setHaircut(0);
        Check.same("99", house.cover(0), 99);
        house.setHaircut(1);
        Check.same("98.01", house.cover(0), 98);
        house.setHaircut(90);
        Check.same("9.9", house.cover(0), 9);
    }

    private static void eachDebtOfATriangleIsPositive() {
        for (int present = 0; present < 8; present++) {
            DebtClearing house = Houses.with(3);
            for (int debt = 0; debt < 3; debt++) {
                if ((present & (1 << debt)) != 0) {
                    house.addDebt(debt, (debt + 1) % 3, 1);
                }
            }
            int want = present == 7 ? 1 : 0;
            Check.same("triangles with the debts " + present, house.triangles(), want);
            Check.same("by product with the debts " + present, house.trianglesByProduct(), want);
        }
    }

    private static void oppositeTrianglesDiffer() {
        DebtClearing house = Houses.with(3, Houses.debt(0, 1, 1), Houses.debt(1, 2, 2), Houses.debt(2, 0, 3));
        Check.same("one direction", house.triangles(), 1);
        house.addDebt(1, 0, 4);
        house.addDebt(2, 1, 5);
        Check.same("two debts of the other one", house.triangles(), 1);
        house.addDebt(0, 2, 6);
        Check.same("both", house.triangles(), 2);
        Check.same("both by product", house.trianglesByProduct(), 2);
        Check.same("netting one", house.netTriangle(0, 2, 1), 4);
        Check.same("leaves the other one", house.owed(0, 1) + house.owed(1, 2) + house.owed(2, 0), 6);
        Check.same("one is left", house.triangles(), 1);
    }

    private static void clearingKeepsPositions() {
        DebtClearing house = Houses.with(8);
        int[] before = new int[8];
        for (int debt = 0; debt < 30; debt++) {
            int debtor = debt % 8;
            house.addDebt(debtor, (debtor + 1 + debt * debt % 7) % 8, 1 + debt * 37 % 19);
        }
        for (int member = 0; member < 8; member++) {
            before[member] = house.position(member);
        }
        int told = house.debtsAfterClearing();
        Check.same("debts", house.clearAll(), told);
        Check.same("count of debts", house.debtCount(), told);
        for (int member = 0; member < 8; member++) {
            Check.same("position of " + member, house.position(member), before[member]);
            Check.same("account of " + member, house.positionByAccount(member), before[member]);
            Check.same("a debit or a credit", Math.min(house.debit(member), house.credit(member)), 0);
        }
        String cleared = Houses.state(house);
        Check.same("cleared twice", house.clearAll(), told);
        Check.same("is as cleared once", Houses.state(house), cleared);
    }

    private static void clearingTakesTheLeastIndex() {
        DebtClearing house = Houses.with(6, Houses.debt(1, 5, 5), Houses.debt(2, 4, 5), Houses.debt(3, 0, 5));
        Check.same("debts", house.clearAll(), 3);
        Check.same("the first debtor and the first creditor", house.owed(1, 0), 5);
        Check.same("the second ones", house.owed(2, 4), 5);
        Check.same("the third ones", house.owed(3, 5), 5);
        // Positions: -3, -3, 6: the second debtor is the least one after the first debt.
        DebtClearing one = Houses.with(3, Houses.debt(0, 2, 3), Houses.debt(1, 2, 3));
        Check.same("two debtors", one.clearAll(), 2);
        Check.same("first", one.owed(0, 2), 3);
        Check.same("second", one.owed(1, 2), 3);
        // Positions: -4, 5, 5, -6: 3 pays 5 to 1, then 0 pays 4 to 2, then 3 pays 1 to 2.
        DebtClearing turned = Houses.with(4, Houses.debt(0, 2, 4), Houses.debt(3, 2, 1), Houses.debt(3, 1, 5));
        Check.same("in turns", turned.clearAll(), 3);
        Check.same("the least position first", turned.owed(3, 1), 5);
        Check.same("then the other one", turned.owed(0, 2), 4);
        Check.same("then the rest", turned.owed(3, 2), 1);
    }

    private static void clearingTakesTheSmallerAmount() {
        DebtClearing debtors = Houses.with(3, Houses.debt(0, 1, 9), Houses.debt(0, 2, 4));
        Check.same("the creditors' positions are smaller", debtors.clearAll(), 2);
        Check.same("nine of thirteen", debtors.owed(0, 1), 9);
        Check.same("the rest", debtors.owed(0, 2), 4);
        DebtClearing creditors = Houses.with(3, Houses.debt(1, 0, 9), Houses.debt(2, 0, 4));
        Check.same("the debtors' positions are smaller", creditors.clearAll(), 2);
        Check.same("nine of thirteen", creditors.owed(1, 0), 9);
        Check.same("the rest", creditors.owed(2, 0), 4);
        DebtClearing equal = Houses.with(3, Houses.debt(0, 1, 9), Houses.debt(1, 2, 9));
        Check.same("both positions are equal", equal.clearAll(), 1);
        Check.same("all at once", equal.owed(0, 2), 9);
    }

    private static void clearingStopsAt0() {
        DebtClearing house = Houses.with(4);
        for (int member = 0; member < 4; member++) {
            house.addDebt(member, (member + 1) % 4, 7);
        }
        Check.same("debts there would be", house.debtsAfterClearing(), 0);
        Check.same("all positions are 0", house.clearAll(), 0);
        Check.same("no debts", house.debtCount(), 0);
        house.addDebt(3, 2, 1);
        Check.same("a position of 1", house.clearAll(), 1);
        Check.same("is a debt of 1", house.owed(3, 2), 1);
    }

    /** The document's method in the plainest words, for all pairs of debts of one member. */
    private static void sharesAreRoundedDown() {
        for (int first = 1; first <= 99; first += 2) {
            for (int second = 1; second <= 99; second += 3) {
                if (first + second > 30) {
                    shares(new int[] {first, second});
                    shares(new int[] {first, second, 17});
                }
            }
        }
    }

    private static void shares(int[] amounts) {
        DebtClearing house = Houses.with(5);
        house.setLimit(4, 500);
        int debit = 0;
        for (int creditor = 0; creditor < amounts.length; creditor++) {
            house.addDebt(4, creditor, amounts[creditor]);
            debit += amounts[creditor];
        }
        int[] wanted = new int[5];
        List<Integer> order = new ArrayList<>();
        int left = 30;
        for (int creditor = 0; creditor < amounts.length; creditor++) {
            wanted[creditor] = 30 * amounts[creditor] / debit;
            left -= wanted[creditor];
            order.add(creditor);
        }
        int sum = debit;
        order.sort(Comparator.comparingInt(creditor -> -(30 * amounts[creditor] % sum)));
        for (int given = 0; given < left; given++) {
            wanted[order.get(given)]++;
        }
        for (int creditor = 0; creditor < 4; creditor++) {
            int told = house.shareIfDefault(4, creditor);
            if (told != wanted[creditor]) {
                Check.same("share of " + creditor + " of " + amounts[0] + " and " + amounts[1], told,
                        wanted[creditor]);
            }
        }
        Check.same("loss", house.declareDefault(4), debit - 30);
        for (int creditor = 0; creditor < 4; creditor++) {
            if (house.coins(creditor) != 30 + wanted[creditor]) {
                Check.same("coins of " + creditor, house.coins(creditor), 30 + wanted[creditor]);
            }
        }
    }

    private static void coinsLeftGoToTheLargestRemainders() {
        // 30 coins, debit 40: 0.75, 1.5, 27.75, so that two coins are left, for the remainders 30 and 30.
        DebtClearing house = Houses.with(4, Houses.debt(0, 1, 1), Houses.debt(0, 2, 2), Houses.debt(0, 3, 37));
        Check.same("the first of the largest", house.shareIfDefault(0, 1), 1);
        Check.same("the smallest remainder", house.shareIfDefault(0, 2), 1);
        Check.same("the second of the largest", house.shareIfDefault(0, 3), 28);
        // 30 coins, debit 50: 6.6, 10.8, 12.6: the first coin goes to the middle one, the second to the first one.
        DebtClearing two = Houses.with(4, Houses.debt(0, 1, 11), Houses.debt(0, 2, 18), Houses.debt(0, 3, 21));
        Check.same("equal, lower", two.shareIfDefault(0, 1), 7);
        Check.same("largest", two.shareIfDefault(0, 2), 11);
        Check.same("equal, higher", two.shareIfDefault(0, 3), 12);
    }

    private static void equalRemaindersGoToTheLowerIndex() {
        for (int creditors = 1; creditors <= 7; creditors++) {
            DebtClearing house = Houses.with(8);
            house.setLimit(3, 500);
            for (int member = 0; member < creditors + (creditors > 3 ? 1 : 0); member++) {
                if (member != 3) {
                    house.addDebt(3, member, 31);
                }
            }
            int seen = 0;
            for (int member = 0; member < 8; member++) {
                if (member != 3 && house.owed(3, member) > 0) {
                    int want = 30 / creditors + (seen < 30 % creditors ? 1 : 0);
                    Check.same("share of " + member + " of " + creditors, house.shareIfDefault(3, member), want);
                    seen++;
                }
            }
            Check.same("creditors", seen, creditors);
        }
    }

    private static void noCoinsAreDivided() {
        DebtClearing house = Houses.with(3, Houses.debt(0, 1, 99));
        house.pay(0, 1, 30);
        house.addDebt(0, 2, 5);
        Check.same("no share", house.shareIfDefault(0, 1), 0);
        Check.same("all is lost", house.declareDefault(0), 74);
        Check.same("coins", house.coins(1), 60);
        Check.same("coins", house.coins(2), 30);
        DebtClearing one = Houses.with(3, Houses.debt(0, 1, 31));
        one.pay(0, 1, 29);
        Check.same("the only coin", one.shareIfDefault(0, 1), 1);
        Check.same("one is lost", one.declareDefault(0), 1);
        Check.same("the coin is got", one.coins(1), 60);
    }

    private static void coinsAndCoverAreDivided() {
        DebtClearing house = Houses.with(3, Houses.debt(0, 1, 90), Houses.debt(0, 2, 9));
        house.pay(0, 1, 30);
        house.pledge(0, 84);
        // The cover is 67 of 84, the debit 69: 67 * 60 / 69 is 58 rest 18, and 67 * 9 / 69 is 8 rest 51.
        Check.same("a share of the cover", house.shareIfDefault(0, 1), 58);
        Check.same("with the coin that is left", house.shareIfDefault(0, 2), 9);
        Check.same("the haircut is not divided", house.declareDefault(0), 2);
        Check.same("nothing else", house.coins(1) + house.coins(2), 157);
        Check.same("collateral", house.collateral(0), 0);
        Check.same("cover", house.cover(0), 0);
    }

    private static void onlyCreditorsGetCoins() {
        DebtClearing house = Houses.with(8, Houses.debt(3, 6, 31), Houses.debt(5, 3, 9), Houses.debt(3, 1, 1));
        house.pay(3, 1, 1);
        house.declareDefault(3);
        for (int member = 0; member < 8; member++) {
            int want = member == 3 ? 0 : member == 6 ? 59 : member == 1 ? 31 : 30;
            Check.same("coins of " + member, house.coins(member), want);
        }
    }

    private static void afterADefaultNothingIsLeft() {
        DebtClearing house = Houses.with(8);
        house.setLimit(7, 500);
        for (int creditor = 0; creditor < 7; creditor++) {
            house.addDebt(7, creditor, 50);
        }
        house.pledge(7, 99);
        Check.same("loss", house.declareDefault(7), 350 - 30 - 79);
        Check.same("coins", house.coins(7), 0);
        Check.same("collateral", house.collateral(7), 0);
        Check.same("debit", house.debit(7), 0);
        Check.same("debts", house.debtCount(), 0);
        for (int creditor = 0; creditor < 7; creditor++) {
            Check.same("owed to " + creditor, house.owed(7, creditor), 0);
            Check.same("account of " + creditor, house.positionByAccount(creditor), 0);
        }
        Check.same("limit stays", house.limit(7), 500);
        Check.same("haircut stays", house.haircut(), 20);
    }

    private static void whatOthersOweStays() {
        DebtClearing house = Houses.with(3, Houses.debt(0, 1, 40), Houses.debt(1, 0, 12), Houses.debt(2, 0, 7),
                Houses.debt(1, 2, 3));
        house.declareDefault(0);
        Check.same("the creditor's own debt", house.owed(1, 0), 12);
        Check.same("another one's debt", house.owed(2, 0), 7);
        Check.same("a debt between others", house.owed(1, 2), 3);
        Check.same("position", house.position(0), 19);
        Check.same("account", house.positionByAccount(0), 19);
        house.pay(1, 0, 12);
        Check.same("it can still be paid", house.coins(0), 12);
    }

    private static void reachFollowsPositiveDebts() {
        DebtClearing house = Houses.with(4, Houses.debt(0, 1, 1), Houses.debt(1, 2, 1));
        reach(house, 2, 1, 0, 0);
        house.pay(1, 2, 1);
        reach(house, 1, 0, 0, 0);
        house.addDebt(2, 0, 1);
        reach(house, 1, 0, 2, 0);
        house.addDebt(1, 2, 1);
        reach(house, 2, 2, 2, 0);
        Check.same("a member does not count itself", house.reachCount(0), 2);
        Check.same("one debt", house.reaches(1, 2), true);
        Check.same("two debts", house.reaches(1, 0), true);
        Check.same("not reached", house.reaches(1, 3), false);
        house.addDebt(3, 1, 1);
        reach(house, 2, 2, 2, 3);
        Check.same("into the ring", house.reaches(3, 0), true);
        Check.same("not out of it", house.reaches(0, 3), false);
        house.clearAll();
        reach(house, 0, 0, 0, 1);
    }

    private static void reach(DebtClearing house, int... wanted) {
        for (int member = 0; member < wanted.length; member++) {
            Check.same("reachCount " + member, house.reachCount(member), wanted[member]);
            Check.same("reachCountByRounds " + member, house.reachCountByRounds(member), wanted[member]);
            int count = 0;
            for (int other = 0; other < wanted.length; other++) {
                count += other != member && house.reaches(member, other) ? 1 : 0;
            }
            Check.same("reaches " + member, count, wanted[member]);
        }
    }

    private static DebtClearing withDefault() {
        DebtClearing house = Houses.with(3, Houses.debt(0, 1, 40), Houses.debt(1, 2, 6));
        house.declareDefault(0);
        return house;
    }

    private static void inDefaultStaysInDefault() {
        DebtClearing house = withDefault();
        house.pledge(0, 99);
        house.setLimit(0, 500);
        house.addDebt(1, 0, 20);
        house.pay(1, 0, 20);
        house.clearAll();
        Houses.run(house, "pledge 1 5;clear");
        Check.same("with coins and collateral", house.isInDefault(0), true);
        Check.throwing("no debts", BAD_STATE, () -> house.addDebt(0, 1, 1));
        Check.throwing("no second default", BAD_STATE, () -> house.declareDefault(0));
        Check.same("no debts by command", Houses.run(house, "debt 0 1 1"), UNSUPPORTED);
        house.addMember();
        Check.same("others are not", house.isInDefault(1) || house.isInDefault(2) || house.isInDefault(3), false);
        house.save();
        house.restore();
        Check.same("after restore", house.isInDefault(0), true);
    }

    private static void inDefaultMayPledge() {
        DebtClearing house = withDefault();
        Check.same("pledge", house.pledge(0, 99), 99);
        Check.same("cover", house.cover(0), 79);
        Check.throwing("above the most", BAD_STATE, () -> house.pledge(0, 1));
        house.undo();
        Check.same("by command", Houses.run(house, "pledge 0 99"), 1);
        Check.same("collateral", house.collateral(0), 99);
    }

    private static void inDefaultMayBeACreditor() {
        DebtClearing house = withDefault();
        Check.same("by a new debt", house.addDebt(2, 0, 9), 9);
        Check.same("by command", Houses.run(house, "debt 2 0 4"), 1);
        Check.same("owed", house.owed(2, 0), 13);
        Check.same("clearing", house.clearAll(), 2);
        Check.same("by clearing", house.owed(2, 0), 7);
        Check.same("by clearing from another one", house.owed(1, 0), 6);
        Check.same("netting with it", house.netPair(0, 2), 0);
        Check.same("it is reached", house.reaches(2, 0), true);
        Check.same("it reaches none", house.reachCount(0), 0);
    }

    private static void sharesAreAddedToTheCoins() {
        DebtClearing house = withDefault();
        Check.same("coins of the creditor", house.coins(1), 60);
        house.addDebt(2, 0, 40);
        house.addDebt(2, 1, 40);
        Check.same("share of one in default", house.shareIfDefault(2, 0), 15);
        Check.same("loss", house.declareDefault(2), 50);
        Check.same("coins of one in default", house.coins(0), 15);
        Check.same("coins of the other one", house.coins(1), 75);
        Check.same("lost", house.lostAmount(), 60);
    }
}
