import java.util.NoSuchElementException;

/** Promises 1 to 11: the calls that change members and debts. */
public final class ChangesTest {
    private static final Class<IndexOutOfBoundsException> NO_INDEX = IndexOutOfBoundsException.class;
    private static final Class<IllegalArgumentException> BAD_ARGUMENT = IllegalArgumentException.class;
    private static final Class<IllegalStateException> BAD_STATE = IllegalStateException.class;
    private static final Class<UnsupportedOperationException> UNSUPPORTED = UnsupportedOperationException.class;

    public static void main(String[] args) {
        promise1NewObject();
        promise2AddMember();
        promise3AddDebt();
        promise3AddDebtRefused();
        promise4Pay();
        promise4PayRefused();
        promise5NetPair();
        promise6NetTriangle();
        promise6NetTriangleRefused();
        promise7ClearAll();
        promise7ClearAllTies();
        promise8Pledge();
        promise9SetLimit();
        promise10SetHaircut();
        promise11DeclareDefault();
        promise11LargestRemainders();
        promise11DefaultRefused();
        promise11AfterDefault();
        refusedCallsChangeNothing();
        Check.finish();
    }

    private static void promise1NewObject() {
        DebtClearing house = new DebtClearing();
        Check.same("new state", Houses.state(house), "0 members, haircut 20, netted 0, lost 0");
        Check.same("new debtCount", house.debtCount(), 0);
        Check.same("new totalDebt", house.totalDebt(), 0);
        Check.same("new undoCount", house.undoCount(), 0);
        Check.throwing("new undo", BAD_STATE, house::undo);
        Check.throwing("new restore", BAD_STATE, house::restore);
        Check.throwing("new outputChar", NO_INDEX, () -> house.outputChar(0));
        Check.throwing("new errorPosition", NoSuchElementException.class, house::errorPosition);
        Check.throwing("new failedCommand", NoSuchElementException.class, house::failedCommand);
        Check.same("new feed", house.feed('x'), 1);
    }

    private static void promise2AddMember() {
        DebtClearing house = new DebtClearing();
        for (int member = 0; member < 8; member++) {
            Check.same("addMember " + member, house.addMember(), member);
            Check.same("coins of " + member, house.coins(member), 30);
            Check.same("collateral of " + member, house.collateral(member), 0);
            Check.same("limit of " + member, house.limit(member), 99);
            Check.same("default of " + member, house.isInDefault(member), false);
            Check.same("memberCount", house.memberCount(), member + 1);
        }
        Check.throwing("ninth addMember", BAD_STATE, house::addMember);
        Check.same("memberCount after the ninth", house.memberCount(), 8);
    }

    private static void promise3AddDebt() {
        DebtClearing house = Houses.with(8);
        Check.same("least debt", house.addDebt(0, 1, 1), 1);
        Check.same("debt on top", house.addDebt(0, 1, 40), 41);
        Check.same("other direction", house.addDebt(1, 0, 99), 99);
        Check.same("up to the limit", house.addDebt(0, 7, 58), 58);
        Check.same("owed", house.owed(0, 1), 41);
        Check.same("owed back", house.owed(1, 0), 99);
        Check.same("coins stay", house.coins(0), 30);
        Check.throwing("one above the limit", UNSUPPORTED, () -> house.addDebt(0, 2, 1));
        house.setLimit(0, 100);
        Check.same("up to the new limit", house.addDebt(0, 2, 1), 1);
        Check.same("debts of others do not count", house.addDebt(2, 0, 99), 99);
    }

    private static void promise3AddDebtRefused() {
        DebtClearing house = Houses.with(2);
        for (int index : new int[] {-1, 2, 8, Integer.MIN_VALUE, Integer.MAX_VALUE}) {
            Check.throwing("debtor " + index, NO_INDEX, () -> house.addDebt(index, 0, 5));
            Check.throwing("creditor " + index, NO_INDEX, () -> house.addDebt(0, index, 5));
            Check.throwing("both " + index, NO_INDEX, () -> house.addDebt(index, index, 0));
        }
        for (int amount : new int[] {0, -1, 100, Integer.MIN_VALUE, Integer.MAX_VALUE}) {
            Check.throwing("amount " + amount, BAD_ARGUMENT, () -> house.addDebt(0, 1, amount));
            Check.throwing("no member before amount", NO_INDEX, () -> house.addDebt(0, 2, amount));
        }
        Check.throwing("same member", BAD_ARGUMENT, () -> house.addDebt(1, 1, 5));
        house.addDebt(0, 1, 31);
        house.declareDefault(0);
        house.setLimit(0, 0);
        Check.throwing("debtor in default before limit", BAD_STATE, () -> house.addDebt(0, 1, 1));
        Check.throwing("same member before default", BAD_ARGUMENT, () -> house.addDebt(0, 0, 1));
        Check.throwing("amount before default", BAD_ARGUMENT, () -> house.addDebt(0, 1, 0));
        Check.same("creditor in default", house.addDebt(1, 0, 1), 1);
    }

    private static void promise4Pay() {
        DebtClearing house = Houses.with(3, Houses.debt(0, 1, 30), Houses.debt(1, 0, 5));
        Check.same("pay a part", house.pay(0, 1, 12), 18);
        Check.same("debtor's coins", house.coins(0), 18);
        Check.same("creditor's coins", house.coins(1), 42);
        Check.same("other direction stays", house.owed(1, 0), 5);
        Check.same("pay the rest with the last coins", house.pay(0, 1, 18), 0);
        Check.same("no coins left", house.coins(0), 0);
        Check.same("all debts paid", house.debtCount(), 1);
        Check.same("positionByAccount", house.positionByAccount(0), 5);
    }

    private static void promise4PayRefused() {
        DebtClearing house = Houses.with(2, Houses.debt(0, 1, 40));
        Check.throwing("debtor", NO_INDEX, () -> house.pay(-1, 1, 1));
        Check.throwing("debtor", NO_INDEX, () -> house.pay(2, 1, 1));
        Check.throwing("creditor", NO_INDEX, () -> house.pay(0, -1, 1));
        Check.throwing("creditor", NO_INDEX, () -> house.pay(0, 2, 0));
        Check.throwing("same member", BAD_ARGUMENT, () -> house.pay(0, 0, 1));
        Check.throwing("amount 0", BAD_ARGUMENT, () -> house.pay(0, 1, 0));
        Check.throwing("amount -1", BAD_ARGUMENT, () -> house.pay(0, 1, -1));
        Check.throwing("amount 100", BAD_ARGUMENT, () -> house.pay(0, 1, 100));
        Check.throwing("owes less, before coins", BAD_STATE, () -> house.pay(0, 1, 41));
        Check.throwing("owes nothing", BAD_STATE, () -> house.pay(1, 0, 1));
        Check.throwing("fewer coins", UNSUPPORTED, () -> house.pay(0, 1, 40));
        Check.throwing("one coin too few", UNSUPPORTED, () -> house.pay(0, 1, 31));
        Check.same("just the coins", house.pay(0, 1, 30), 10);
    }

    private static void promise5NetPair() {
        DebtClearing house = Houses.with(3, Houses.debt(0, 1, 30), Houses.debt(1, 0, 12), Houses.debt(2, 0, 7));
        Check.same("netPair", house.netPair(0, 1), 12);
        Check.same("greater one", house.owed(0, 1), 18);
        Check.same("smaller one", house.owed(1, 0), 0);
        Check.same("one direction only", house.netPair(2, 0), 0);
        Check.same("no debt", house.netPair(1, 2), 0);
        Check.same("untouched", house.owed(2, 0), 7);
        Check.same("even a netting of nothing is recorded", house.undoCount(), 8);
        Check.throwing("first", NO_INDEX, () -> house.netPair(3, 0));
        Check.throwing("second", NO_INDEX, () -> house.netPair(0, -1));
        Check.throwing("no member before same", NO_INDEX, () -> house.netPair(3, 3));
        Check.throwing("same member", BAD_ARGUMENT, () -> house.netPair(1, 1));
        house.addDebt(1, 0, 18);
        Check.same("equal amounts", house.netPair(1, 0), 18);
        Check.same("both gone", house.debtCount(), 1);
    }

    private static void promise6NetTriangle() {
        DebtClearing house = Houses.with(4, Houses.debt(2, 0, 25), Houses.debt(0, 3, 30), Houses.debt(3, 2, 20));
        Check.same("netTriangle", house.netTriangle(0, 3, 2), 20);
        Check.same("first to second", house.owed(0, 3), 10);
        Check.same("second to third", house.owed(3, 2), 0);
        Check.same("third to first", house.owed(2, 0), 5);
        Check.throwing("no triangle any more", BAD_STATE, () -> house.netTriangle(0, 3, 2));
        house.addDebt(3, 2, 9);
        Check.same("from the second member", house.netTriangle(3, 2, 0), 5);
        house.addDebt(2, 0, 2);
        Check.same("from the third member", house.netTriangle(2, 0, 3), 2);
        DebtClearing ones = Houses.with(3, Houses.debt(0, 1, 1), Houses.debt(1, 2, 1), Houses.debt(2, 0, 1));
        Check.same("debts of 1", ones.netTriangle(0, 1, 2), 1);
        DebtClearing firstLeast = Houses.with(3, Houses.debt(0, 1, 1), Houses.debt(1, 2, 5), Houses.debt(2, 0, 6));
        Check.same("first debt is the smallest", firstLeast.netTriangle(0, 1, 2), 1);
    }

    private static void promise6NetTriangleRefused() {
        DebtClearing house = Houses.with(3, Houses.debt(0, 1, 5), Houses.debt(1, 2, 5), Houses.debt(2, 0, 5));
        for (int index : new int[] {-1, 3, 8}) {
            Check.throwing("first " + index, NO_INDEX, () -> house.netTriangle(index, 1, 2));
            Check.throwing("second " + index, NO_INDEX, () -> house.netTriangle(0, index, 2));
            Check.throwing("third " + index, NO_INDEX, () -> house.netTriangle(0, 1, index));
            Check.throwing("no member before same", NO_INDEX, () -> house.netTriangle(0, 0, index));
        }
        Check.throwing("first is second", BAD_ARGUMENT, () -> house.netTriangle(1, 1, 2));
        Check.throwing("second is third", BAD_ARGUMENT, () -> house.netTriangle(0, 2, 2));
        Check.throwing("third is first", BAD_ARGUMENT, () -> house.netTriangle(0, 1, 0));
        Check.throwing("other direction", BAD_STATE, () -> house.netTriangle(0, 2, 1));
        for (int gone = 0; gone < 3; gone++) {
            DebtClearing other = Houses.with(3, Houses.debt(gone, (gone + 1) % 3, 5),
                    Houses.debt((gone + 1) % 3, (gone + 2) % 3, 5));
            Check.throwing("debt missing", BAD_STATE, () -> other.netTriangle(0, 1, 2));
        }
    }

    private static void promise7ClearAll() {
        DebtClearing house = Houses.with(4, Houses.debt(0, 1, 10), Houses.debt(1, 2, 10), Houses.debt(2, 0, 10));
        Check.same("a ring clears to nothing", house.clearAll(), 0);
        Check.same("nothing owed", house.totalDebt(), 0);
        // Positions: -21, 11, -4, 14.
        house.addDebt(0, 1, 21);
        house.addDebt(1, 3, 10);
        house.addDebt(2, 3, 4);
        Check.same("debts afterwards", house.clearAll(), 3);
        Check.same("least to greatest", house.owed(0, 3), 14);
        Check.same("next least", house.owed(0, 1), 7);
        Check.same("last", house.owed(2, 1), 4);
        Check.same("old debt", house.owed(1, 3), 0);
        Check.same("position", house.position(0), -21);
        Check.same("account", house.positionByAccount(1), 11);
        Check.same("nothing is netted by clearing", house.nettedAmount(), 0);
        Check.same("without members", new DebtClearing().clearAll(), 0);
        limitsDoNotMatter();
    }

    private static void limitsDoNotMatter() {
        DebtClearing house = Houses.with(3, Houses.debt(0, 1, 9), Houses.debt(1, 2, 9));
        house.setLimit(0, 9);
        Check.same("clearing at the limit", house.clearAll(), 1);
        Check.same("debit at the limit", house.owed(0, 2), 9);
    }

    private static void promise7ClearAllTies() {
        DebtClearing house = Houses.with(4, Houses.debt(3, 2, 5), Houses.debt(1, 0, 5));
        Check.same("ties", house.clearAll(), 2);
        Check.same("least index owes least index", house.owed(1, 0), 5);
        Check.same("the others", house.owed(3, 2), 5);
        DebtClearing crossed = Houses.with(4, Houses.debt(0, 3, 5), Houses.debt(1, 2, 5));
        Check.same("crossed ties", crossed.clearAll(), 2);
        Check.same("first to the lower creditor", crossed.owed(0, 2), 5);
        Check.same("second to the other", crossed.owed(1, 3), 5);
        Check.same("the rest is 1", Houses.with(2, Houses.debt(0, 1, 1)).clearAll(), 1);
        DebtClearing later = Houses.with(4, Houses.debt(0, 3, 9));
        later.clearAll();
        later.pay(0, 3, 4);
        later.addDebt(0, 2, 5);
        Check.same("ties after an earlier clearing", later.clearAll(), 2);
        Check.same("still the lower creditor first", later.largestCreditor(), 2);
        Check.same("crossed debts are gone", crossed.owed(0, 3) + crossed.owed(1, 2), 0);
    }

    private static void promise8Pledge() {
        DebtClearing house = Houses.with(2);
        Check.same("least pledge", house.pledge(1, 1), 1);
        Check.same("up to the most", house.pledge(1, 98), 99);
        Check.same("coins stay", house.coins(1), 30);
        Check.throwing("above the most", BAD_STATE, () -> house.pledge(1, 1));
        Check.same("most at once", house.pledge(0, 99), 99);
        Check.throwing("no member", NO_INDEX, () -> house.pledge(2, 0));
        Check.throwing("no member", NO_INDEX, () -> house.pledge(-1, 1));
        Check.throwing("amount 0", BAD_ARGUMENT, () -> house.pledge(1, 0));
        Check.throwing("amount 100 before the most", BAD_ARGUMENT, () -> house.pledge(1, 100));
        Check.throwing("amount", BAD_ARGUMENT, () -> house.pledge(1, Integer.MAX_VALUE));
        Check.throwing("amount", BAD_ARGUMENT, () -> house.pledge(1, Integer.MIN_VALUE));
    }

    private static void promise9SetLimit() {
        DebtClearing house = Houses.with(2, Houses.debt(0, 1, 50));
        Check.same("setLimit", house.setLimit(0, 500), 99);
        Check.same("setLimit again", house.setLimit(0, 50), 500);
        Check.same("limit", house.limit(0), 50);
        Check.same("other limit", house.limit(1), 99);
        Check.throwing("below the debit", BAD_STATE, () -> house.setLimit(0, 49));
        Check.same("least limit", house.setLimit(1, 0), 99);
        Check.throwing("no debts with limit 0", UNSUPPORTED, () -> house.addDebt(1, 0, 1));
        Check.throwing("no member", NO_INDEX, () -> house.setLimit(2, 501));
        Check.throwing("no member", NO_INDEX, () -> house.setLimit(-1, 5));
        Check.throwing("limit 501", BAD_ARGUMENT, () -> house.setLimit(0, 501));
        Check.throwing("limit -1 before the debit", BAD_ARGUMENT, () -> house.setLimit(0, -1));
    }

    private static void promise10SetHaircut() {
        DebtClearing house = Houses.with(1);
        house.pledge(0, 99);
        Check.same("setHaircut", house.setHaircut(0), 20);
        Check.same("cover without haircut", house.cover(0), 99);
        Check.same("setHaircut again", house.setHaircut(90), 0);
        Check.same("haircut", house.haircut(), 90);
        Check.same("cover is rounded down", house.cover(0), 9);
        Check.throwing("haircut 91", BAD_ARGUMENT, () -> house.setHaircut(91));
        Check.throwing("haircut -1", BAD_ARGUMENT, () -> house.setHaircut(-1));
        Check.same("haircut stays", house.haircut(), 90);
    }

    private static void promise11DeclareDefault() {
        DebtClearing house = Houses.with(4, Houses.debt(0, 1, 60), Houses.debt(0, 3, 30), Houses.debt(2, 0, 8));
        house.pledge(0, 11);
        // 30 coins and a cover of 8 against a debit of 90: 25 rest 30, and 12 rest 60.
        Check.same("declareDefault", house.declareDefault(0), 52);
        Check.same("largest remainder gets the last coin", house.coins(3), 43);
        Check.same("the other creditor", house.coins(1), 55);
        Check.same("no creditor", house.coins(2), 30);
        Check.same("no coins", house.coins(0), 0);
        Check.same("no collateral", house.collateral(0), 0);
        Check.same("in default", house.isInDefault(0), true);
        Check.same("owes nothing", house.debit(0), 0);
        Check.same("what others owe to it stays", house.owed(2, 0), 8);
        Check.same("account", house.positionByAccount(0), 8);
        Check.same("creditor's account", house.positionByAccount(1), 0);
        Check.same("lost", house.lostAmount(), 52);
    }

    private static void promise11LargestRemainders() {
        DebtClearing house = Houses.with(8);
        for (int creditor = 0; creditor < 7; creditor++) {
            house.addDebt(7, creditor, 9);
        }
        // 30 * 9 / 63 is 4 rest 18 for each of seven; two coins are left.
        Check.same("equal remainders", house.declareDefault(7), 33);
        for (int creditor = 0; creditor < 7; creditor++) {
            Check.same("coins of " + creditor, house.coins(creditor), creditor < 2 ? 35 : 34);
        }
        DebtClearing even = Houses.with(3, Houses.debt(0, 1, 20), Houses.debt(0, 2, 40));
        even.declareDefault(0);
        Check.same("no remainder", even.coins(1), 40);
        Check.same("no remainder", even.coins(2), 50);
    }

    private static void promise11DefaultRefused() {
        DebtClearing house = Houses.with(2, Houses.debt(0, 1, 38));
        house.pledge(0, 10);
        Check.throwing("debit is just covered", BAD_STATE, () -> house.declareDefault(0));
        Check.throwing("no member", NO_INDEX, () -> house.declareDefault(2));
        Check.throwing("no member", NO_INDEX, () -> house.declareDefault(-1));
        Check.throwing("no debts", BAD_STATE, () -> house.declareDefault(1));
        house.setHaircut(21);
        Check.same("one short by the haircut", house.declareDefault(0), 1);
        Check.throwing("in default", BAD_STATE, () -> house.declareDefault(0));
    }

    private static void promise11AfterDefault() {
        DebtClearing house = Houses.with(3, Houses.debt(0, 1, 40), Houses.debt(1, 0, 50), Houses.debt(1, 2, 10));
        house.declareDefault(0);
        Check.same("pledge in default", house.pledge(0, 20), 20);
        Check.same("limit in default", house.setLimit(0, 7), 99);
        Check.same("pay to one in default", house.pay(1, 0, 5), 45);
        Check.same("coins in default", house.coins(0), 5);
        house.addDebt(1, 2, 20);
        // 55 coins against a debit of 75.
        Check.same("second default", house.declareDefault(1), 20);
        Check.same("a creditor in default gets its share", house.coins(0), 38);
        Check.same("the other one too", house.coins(2), 52);
        Check.same("losses add up", house.lostAmount(), 30);
        Check.same("stays in default", house.isInDefault(0), true);
        house.addDebt(2, 0, 9);
        Check.same("clearing keeps it as creditor", house.clearAll(), 1);
        Check.same("creditor by clearing", house.owed(2, 0), 9);
    }

    private static void refusedCallsChangeNothing() {
        DebtClearing house = Houses.with(3, Houses.debt(0, 1, 40), Houses.debt(1, 2, 99));
        house.pledge(1, 50);
        String before = Houses.state(house);
        Check.Call[] calls = {
            () -> house.addDebt(1, 2, 1), () -> house.addDebt(0, 3, 1), () -> house.addDebt(0, 0, 1),
            () -> house.pay(0, 1, 31), () -> house.pay(1, 0, 1), () -> house.pay(0, 1, 0),
            () -> house.netPair(0, 0), () -> house.netPair(0, 5), () -> house.netTriangle(0, 1, 2),
            () -> house.pledge(1, 50), () -> house.setLimit(1, 98), () -> house.setHaircut(99),
            () -> house.declareDefault(2), () -> house.declareDefault(4)};
        for (int index = 0; index < calls.length; index++) {
            Check.same("call " + index + " throws", Check.outcome(calls[index]) instanceof Class, true);
            Check.same("state after call " + index, Houses.state(house), before);
            Check.same("undoCount after call " + index, house.undoCount(), 6);
        }
    }
}
