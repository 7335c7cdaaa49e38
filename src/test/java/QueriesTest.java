import java.lang.reflect.Field;
import java.util.NoSuchElementException;

/** Promises 12 to 41: the calls that only answer. */
public final class QueriesTest {
    private static final Class<IndexOutOfBoundsException> NO_INDEX = IndexOutOfBoundsException.class;
    private static final Class<IllegalArgumentException> BAD_ARGUMENT = IllegalArgumentException.class;
    private static final Class<IllegalStateException> BAD_STATE = IllegalStateException.class;
    private static final Class<NoSuchElementException> NOT_FOUND = NoSuchElementException.class;

    public static void main(String[] args) throws ReflectiveOperationException {
        promises12To18Members();
        promise19Owed();
        promises20And25Debts();
        promises21To24Positions();
        promises26And27LargestDebt();
        promises28And29Triangles();
        promises30To32Reach();
        promise33DebtsAfterClearing();
        promise34LossIfDefault();
        promise35ShareIfDefault();
        promise36MemberByPosition();
        promise37NettedAmount();
        promise38LostAmount();
        promise39MeanPosition();
        promise40DebtShare();
        promise41IsConsistent();
        promise41SeesWrongAccount();
        promise41SeesPositionsThatDoNotAddUp();
        noSuchMember();
        queriesAreNotRecorded();
        Check.finish();
    }

    private static void promises12To18Members() {
        DebtClearing house = Houses.with(3, Houses.debt(2, 1, 31));
        house.pledge(1, 99);
        house.setHaircut(35);
        house.setLimit(2, 77);
        house.pledge(0, 1);
        house.declareDefault(2);
        Check.same("memberCount", house.memberCount(), 3);
        Check.same("coins", house.coins(1), 60);
        Check.same("coins of another", house.coins(0), 30);
        Check.same("collateral", house.collateral(1), 99);
        Check.same("cover is rounded down", house.cover(1), 64);
        Check.same("cover of 1", house.cover(0), 0);
        Check.same("limit", house.limit(2), 77);
        Check.same("isInDefault", house.isInDefault(2), true);
        Check.same("not in default", house.isInDefault(0), false);
        Check.same("haircut", house.haircut(), 35);
    }

    private static void promise19Owed() {
        DebtClearing house = Houses.with(3, Houses.debt(2, 1, 31));
        Check.same("owed", house.owed(2, 1), 31);
        Check.same("owed back", house.owed(1, 2), 0);
        Check.throwing("same", BAD_ARGUMENT, () -> house.owed(1, 1));
        Check.throwing("no member before same", NO_INDEX, () -> house.owed(3, 3));
        Check.throwing("debtor", NO_INDEX, () -> house.owed(-1, 0));
        Check.throwing("creditor", NO_INDEX, () -> house.owed(0, 3));
    }

    private static void promises20And25Debts() {
        DebtClearing house = Houses.with(8, Houses.debt(0, 7, 31), Houses.debt(7, 0, 9), Houses.debt(3, 4, 1));
        Check.same("debtCount", house.debtCount(), 3);
        Check.same("totalDebt", house.totalDebt(), 41);
        house.pay(3, 4, 1);
        Check.same("debtCount after paying", house.debtCount(), 2);
        Check.same("totalDebt after paying", house.totalDebt(), 40);
    }

    private static void promises21To24Positions() {
        DebtClearing house = Houses.with(3, Houses.debt(0, 1, 31), Houses.debt(0, 2, 9), Houses.debt(1, 0, 7));
        Check.same("debit", house.debit(0), 40);
        Check.same("credit", house.credit(0), 7);
        Check.same("position", house.position(0), -33);
        Check.same("positionByAccount", house.positionByAccount(0), -33);
        Check.same("debit of a creditor", house.debit(2), 0);
        Check.same("credit of a creditor", house.credit(2), 9);
        Check.same("position of a creditor", house.position(2), 9);
        Check.same("account of a creditor", house.positionByAccount(2), 9);
        house.netPair(0, 1);
        Check.same("netting keeps positions", house.positionByAccount(0), -33);
        house.pay(0, 2, 9);
        Check.same("paying moves them", house.positionByAccount(0), -24);
        Check.same("paying moves the sum", house.position(0), -24);
    }

    private static void promises26And27LargestDebt() {
        DebtClearing house = Houses.with(5);
        Check.throwing("no debts", NOT_FOUND, house::largestDebtor);
        Check.throwing("no debts", NOT_FOUND, house::largestCreditor);
        house.addDebt(3, 4, 7);
        house.addDebt(3, 2, 7);
        house.addDebt(4, 0, 7);
        house.addDebt(1, 0, 6);
        Check.same("least debtor", house.largestDebtor(), 3);
        Check.same("then least creditor", house.largestCreditor(), 2);
        house.addDebt(4, 1, 8);
        Check.same("largest", house.largestDebtor(), 4);
        Check.same("its creditor", house.largestCreditor(), 1);
        DebtClearing paid = Houses.with(2, Houses.debt(0, 1, 1));
        Check.same("debt of 1", paid.largestDebtor(), 0);
        Check.same("debt of 1", paid.largestCreditor(), 1);
        paid.pay(0, 1, 1);
        Check.throwing("paid debts are not positive", NOT_FOUND, paid::largestDebtor);
        Check.throwing("paid debts are not positive", NOT_FOUND, paid::largestCreditor);
    }

    private static void promises28And29Triangles() {
        DebtClearing house = Houses.with(4, Houses.debt(0, 1, 1), Houses.debt(1, 2, 1));
        triangles(house, 0);
        house.addDebt(2, 0, 1);
        Check.same("product at once after a change", house.trianglesByProduct(), 1);
        triangles(house, 1);
        house.addDebt(1, 0, 1);
        house.addDebt(2, 1, 1);
        triangles(house, 1);
        house.addDebt(0, 2, 1);
        triangles(house, 2);
        DebtClearing full = Houses.with(8);
        for (int place = 0; place < 64; place++) {
            if (place / 8 != place % 8) {
                full.addDebt(place / 8, place % 8, 14);
            }
        }
        triangles(full, 112);
    }

    private static void triangles(DebtClearing house, int want) {
        Check.same("triangles", house.triangles(), want);
        Check.same("trianglesByProduct", house.trianglesByProduct(), want);
    }

    private static void promises30To32Reach() {
        DebtClearing house = Houses.with(8);
        for (int member = 7; member > 0; member--) {
            house.addDebt(member, member - 1, member);
        }
        for (int member = 0; member < 8; member++) {
            reach(house, member, member);
        }
        Check.same("along the chain", house.reaches(7, 0), true);
        Check.same("against the chain", house.reaches(0, 7), false);
        house.addDebt(0, 7, 1);
        for (int member = 0; member < 8; member++) {
            reach(house, member, 7);
        }
        Check.same("round the ring", house.reaches(0, 1), true);
        house.pay(4, 3, 4);
        Check.same("a gap in the ring", house.reaches(4, 3), false);
        Check.same("just before the gap", house.reaches(3, 4), true);
        house.pay(2, 1, 2);
        Check.same("rounds at once after a change", house.reachCountByRounds(3), 1);
        house.undo();
        Check.same("triangles", house.trianglesByProduct(), 0);
        house.undo();
        Check.same("reaches at once after a change", house.reaches(4, 3), true);
        Check.throwing("itself", BAD_ARGUMENT, () -> house.reaches(3, 3));
        Check.throwing("no member before itself", NO_INDEX, () -> house.reaches(8, 8));
        Check.throwing("from", NO_INDEX, () -> house.reaches(-1, 3));
        Check.throwing("to", NO_INDEX, () -> house.reaches(3, 8));
        DebtClearing pair = Houses.with(3, Houses.debt(0, 1, 1), Houses.debt(1, 0, 1));
        reach(pair, 0, 1);
        reach(pair, 2, 0);
    }

    private static void reach(DebtClearing house, int member, int want) {
        Check.same("reachCount " + member, house.reachCount(member), want);
        Check.same("reachCountByRounds " + member, house.reachCountByRounds(member), want);
    }

    private static void promise33DebtsAfterClearing() {
        DebtClearing house = Houses.with(4, Houses.debt(0, 1, 21), Houses.debt(1, 3, 10), Houses.debt(2, 3, 4));
        String before = Houses.state(house);
        Check.same("debtsAfterClearing", house.debtsAfterClearing(), 3);
        Check.same("nothing is cleared", Houses.state(house), before);
        Check.same("as clearAll says", house.clearAll(), 3);
        Check.same("cleared already", house.debtsAfterClearing(), 3);
        Check.same("no members", new DebtClearing().debtsAfterClearing(), 0);
        DebtClearing seven = Houses.with(8);
        for (int creditor = 1; creditor < 8; creditor++) {
            seven.addDebt(0, creditor, 14);
        }
        Check.same("at most seven", seven.debtsAfterClearing(), 7);
    }

    private static void promise34LossIfDefault() {
        DebtClearing house = Houses.with(3, Houses.debt(0, 1, 50), Houses.debt(1, 2, 30));
        Check.same("lossIfDefault", house.lossIfDefault(0), 20);
        house.pledge(0, 10);
        Check.same("with cover", house.lossIfDefault(0), 12);
        Check.same("not in default by that", house.isInDefault(0), false);
        Check.throwing("covered", BAD_STATE, () -> house.lossIfDefault(1));
        Check.throwing("no member", NO_INDEX, () -> house.lossIfDefault(3));
        Check.same("as declareDefault says", house.declareDefault(0), 12);
        Check.throwing("in default", BAD_STATE, () -> house.lossIfDefault(0));
    }

    private static void promise35ShareIfDefault() {
        DebtClearing house = Houses.with(5, Houses.debt(3, 0, 20), Houses.debt(3, 1, 20), Houses.debt(3, 4, 5));
        String before = Houses.state(house);
        // 30 coins: 13 rest 15, 13 rest 15, and 3 rest 15, so the last coin goes to the lowest index.
        Check.same("first of equal remainders", house.shareIfDefault(3, 0), 14);
        Check.same("second", house.shareIfDefault(3, 1), 13);
        Check.same("third", house.shareIfDefault(3, 4), 3);
        Check.same("no creditor", house.shareIfDefault(3, 2), 0);
        Check.same("nothing changes", Houses.state(house), before);
        Check.throwing("no member", NO_INDEX, () -> house.shareIfDefault(5, 0));
        Check.throwing("no creditor", NO_INDEX, () -> house.shareIfDefault(3, -1));
        Check.throwing("no member before same", NO_INDEX, () -> house.shareIfDefault(5, 5));
        Check.throwing("same before default", BAD_ARGUMENT, () -> house.shareIfDefault(0, 0));
        Check.throwing("same", BAD_ARGUMENT, () -> house.shareIfDefault(3, 3));
        Check.throwing("no debts", BAD_STATE, () -> house.shareIfDefault(0, 3));
        house.declareDefault(3);
        Check.same("as it was told", house.coins(0), 44);
        Check.throwing("in default", BAD_STATE, () -> house.shareIfDefault(3, 0));
    }

    private static void promise36MemberByPosition() {
        DebtClearing house = Houses.with(6, Houses.debt(0, 5, 9), Houses.debt(4, 2, 3), Houses.debt(1, 3, 5));
        house.pay(1, 3, 5);
        // Positions: -9, 0, 3, 0, -3, 9; coins: 30, 25, 30, 35, 30, 30.
        int[] wanted = {5, 2, 3, 1, 4, 0};
        for (int rank = 0; rank < wanted.length; rank++) {
            Check.same("rank " + rank, house.memberByPosition(rank), wanted[rank]);
        }
        for (int rank : new int[] {-1, 6, 8, Integer.MIN_VALUE, Integer.MAX_VALUE}) {
            Check.throwing("rank " + rank, NOT_FOUND, () -> house.memberByPosition(rank));
        }
        DebtClearing equal = Houses.with(3);
        for (int rank = 0; rank < 3; rank++) {
            Check.same("equal members", equal.memberByPosition(rank), rank);
        }
        Check.throwing("no members", NOT_FOUND, () -> new DebtClearing().memberByPosition(0));
    }

    private static void promise37NettedAmount() {
        DebtClearing house = Houses.with(3, Houses.debt(0, 1, 30), Houses.debt(1, 0, 12), Houses.debt(1, 2, 9));
        house.netPair(0, 1);
        Check.same("both debts count", house.nettedAmount(), 24);
        house.addDebt(2, 0, 4);
        house.netTriangle(0, 1, 2);
        Check.same("three debts count", house.nettedAmount(), 36);
        house.clearAll();
        house.pay(0, 1, 1);
        Check.same("nothing else counts", house.nettedAmount(), 36);
        house.undo();
        house.undo();
        house.undo();
        Check.same("undone", house.nettedAmount(), 24);
    }

    private static void promise38LostAmount() {
        DebtClearing house = Houses.with(3, Houses.debt(0, 1, 50), Houses.debt(2, 1, 33));
        house.declareDefault(0);
        Check.same("one default", house.lostAmount(), 20);
        house.declareDefault(2);
        Check.same("two defaults", house.lostAmount(), 23);
        house.undo();
        Check.same("undone", house.lostAmount(), 20);
    }

    private static void promise39MeanPosition() {
        DebtClearing house = new DebtClearing();
        Check.throwing("no members", ArithmeticException.class, house::meanPosition);
        house.addMember();
        Check.same("one member", house.meanPosition(), 0.0);
        house.addMember();
        house.addMember();
        house.addDebt(0, 1, 5);
        Check.same("absolute values", house.meanPosition(), 10.0 / 3.0);
    }

    private static void promise40DebtShare() {
        DebtClearing house = new DebtClearing();
        Check.throwing("no members", ArithmeticException.class, house::debtShare);
        house.addMember();
        Check.throwing("one member", ArithmeticException.class, house::debtShare);
        house.addMember();
        Check.same("no debts", house.debtShare(), 0.0f);
        house.addDebt(0, 1, 5);
        house.addDebt(1, 0, 5);
        Check.same("all debts", house.debtShare(), 1.0f);
        house.addMember();
        Check.same("a third", house.debtShare(), 2.0f / 6.0f);
    }

    private static void promise41IsConsistent() {
        DebtClearing house = new DebtClearing();
        Check.same("no members", house.isConsistent(), true);
        house.addMember();
        house.addMember();
        house.addMember();
        house.addDebt(0, 1, 50);
        house.addDebt(1, 2, 5);
        house.addDebt(2, 0, 5);
        Check.same("with debts", house.isConsistent(), true);
        house.netTriangle(0, 1, 2);
        house.declareDefault(0);
        house.clearAll();
        Check.same("after all", house.isConsistent(), true);
    }

    /** No call of the face can make a state inconsistent, so the tests reach behind it. */
    private static void promise41SeesWrongAccount() throws ReflectiveOperationException {
        DebtClearing house = Houses.with(3, Houses.debt(0, 1, 50));
        int[] accounts = row(house, "accounts");
        accounts[0]++;
        accounts[1]--;
        Check.same("wrong accounts", house.isConsistent(), false);
        accounts[0]--;
        accounts[1]++;
        Check.same("right accounts", house.isConsistent(), true);
        accounts[2]--;
        Check.same("wrong account of the last member", house.isConsistent(), false);
    }

    /** A debt to a member that does not exist: each account is right, but the positions do not add up to 0. */
    private static void promise41SeesPositionsThatDoNotAddUp() throws ReflectiveOperationException {
        DebtClearing house = Houses.with(3, Houses.debt(0, 1, 50));
        row(house, "amounts")[2 * 8 + 5] = 1;
        row(house, "accounts")[2] = -1;
        Check.same("account", house.positionByAccount(2), house.position(2));
        Check.same("positions add up to -1", house.isConsistent(), false);
    }

    private static int[] row(DebtClearing house, String name) throws ReflectiveOperationException {
        Field ledgerField = DebtClearing.class.getDeclaredField("ledger");
        ledgerField.setAccessible(true);
        Object ledger = ledgerField.get(house);
        Field rowField = ledger.getClass().getDeclaredField(name);
        rowField.setAccessible(true);
        return (int[]) rowField.get(ledger);
    }

    private static void noSuchMember() {
        for (int members : new int[] {0, 3, 8}) {
            DebtClearing house = Houses.with(members);
            for (int index : new int[] {-1, members, 9, Integer.MIN_VALUE, Integer.MAX_VALUE}) {
                Check.throwing("coins", NO_INDEX, () -> house.coins(index));
                Check.throwing("collateral", NO_INDEX, () -> house.collateral(index));
                Check.throwing("cover", NO_INDEX, () -> house.cover(index));
                Check.throwing("limit", NO_INDEX, () -> house.limit(index));
                Check.throwing("isInDefault", NO_INDEX, () -> house.isInDefault(index));
                Check.throwing("debit", NO_INDEX, () -> house.debit(index));
                Check.throwing("credit", NO_INDEX, () -> house.credit(index));
                Check.throwing("position", NO_INDEX, () -> house.position(index));
                Check.throwing("positionByAccount", NO_INDEX, () -> house.positionByAccount(index));
                Check.throwing("reachCount", NO_INDEX, () -> house.reachCount(index));
                Check.throwing("reachCountByRounds", NO_INDEX, () -> house.reachCountByRounds(index));
                Check.throwing("writeDebts", NO_INDEX, () -> house.writeDebts(index));
            }
        }
    }

    private static void queriesAreNotRecorded() {
        DebtClearing house = Houses.with(2, Houses.debt(0, 1, 40));
        house.debtsAfterClearing();
        house.lossIfDefault(0);
        house.shareIfDefault(0, 1);
        house.memberByPosition(1);
        house.isConsistent();
        house.writeDebts(0);
        house.save();
        house.feed('x');
        Check.same("undoCount", house.undoCount(), 3);
    }
}
