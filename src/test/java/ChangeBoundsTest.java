import java.util.function.BiFunction;
import java.util.function.Supplier;

/**
 * Promises 2 to 11, each "Throws" sentence and each range by itself: the last value that is allowed, the first that is
 * not, which exception goes before which, and that a refused call leaves everything as it was.
 */
public final class ChangeBoundsTest {
    private static final Class<IndexOutOfBoundsException> NO_INDEX = IndexOutOfBoundsException.class;
    private static final Class<IllegalArgumentException> BAD_ARGUMENT = IllegalArgumentException.class;
    private static final Class<IllegalStateException> BAD_STATE = IllegalStateException.class;
    private static final Class<UnsupportedOperationException> UNSUPPORTED = UnsupportedOperationException.class;

    public static void main(String[] args) {
        promise2NinthMember();
        promise3Members();
        promise3SameMember();
        promise3AmountRange();
        promise3DebtorInDefault();
        promise3Limit();
        promise3ListedFirst();
        promise4Members();
        promise4SameMember();
        promise4AmountRange();
        promise4OwesLess();
        promise4FewerCoins();
        promise4ListedFirst();
        promise5Members();
        promise5SameMember();
        promise6Members();
        promise6SameMembers();
        promise6NoTriangle();
        promise6ListedFirst();
        promise7NothingToClear();
        promise8Members();
        promise8AmountRange();
        promise8MostCollateral();
        promise8ListedFirst();
        promise9Members();
        promise9LimitRange();
        promise9DebitAboveLimit();
        promise9ListedFirst();
        promise10HaircutRange();
        promise11Members();
        promise11InDefault();
        promise11Covered();
        Check.finish();
    }

    /** No index but 0 to 3 is one of four members, and none at all is one of no members. */
    private static void members(String what, BiFunction<DebtClearing, Integer, Object> call) {
        for (int index : new int[] {-1, 4, 7, 8, Integer.MIN_VALUE, Integer.MAX_VALUE}) {
            Twins.refused(what + " " + index, NO_INDEX, Twins::busy, house -> call.apply(house, index));
        }
        Twins.refused(what + " without members", NO_INDEX, DebtClearing::new, house -> call.apply(house, 0));
        Twins.refused(what + " behind the last of eight", NO_INDEX, Twins::full, house -> call.apply(house, 8));
        Twins.refused(what + " before the first of eight", NO_INDEX, Twins::full, house -> call.apply(house, -1));
    }

    private static void promise2NinthMember() {
        Twins.answered("the eighth member", 7, () -> Houses.with(7), DebtClearing::addMember);
        Twins.refused("a ninth member", BAD_STATE, Twins::full, DebtClearing::addMember);
        Twins.answered("the first member", 0, DebtClearing::new, DebtClearing::addMember);
    }

    private static void promise3Members() {
        members("addDebt's debtor", (house, index) -> house.addDebt(index, 1, 5));
        members("addDebt's creditor", (house, index) -> house.addDebt(1, index, 5));
        Twins.answered("the first debtor and the last creditor", 5, Twins::full, house -> house.addDebt(0, 7, 5));
        Twins.answered("the last debtor and the first creditor", 43, Twins::full, house -> house.addDebt(7, 0, 5));
    }

    private static void promise3SameMember() {
        for (int member = 0; member < 4; member++) {
            int index = member;
            Twins.refused("addDebt to itself", BAD_ARGUMENT, Twins::busy, house -> house.addDebt(index, index, 5));
        }
    }

    private static void promise3AmountRange() {
        for (int amount : new int[] {0, 100, -1, Integer.MIN_VALUE, Integer.MAX_VALUE}) {
            Twins.refused("addDebt of " + amount, BAD_ARGUMENT, Twins::busy, house -> house.addDebt(1, 3, amount));
        }
        Twins.answered("the least amount", 1, Twins::busy, house -> house.addDebt(1, 3, 1));
        Twins.answered("the greatest amount", 99, () -> Houses.with(2), house -> house.addDebt(1, 0, 99));
        Supplier<DebtClearing> roomy = () -> roomyPair(500);
        Twins.answered("the greatest amount below the limit", 99, roomy, house -> house.addDebt(0, 1, 99));
        Twins.refused("100, though the limit allows it", BAD_ARGUMENT, roomy, house -> house.addDebt(0, 1, 100));
    }

    private static DebtClearing roomyPair(int limit) {
        DebtClearing house = Houses.with(2);
        house.setLimit(0, limit);
        return house;
    }

    private static void promise3DebtorInDefault() {
        Twins.refused("debt of a debtor in default", BAD_STATE, Twins::busy, house -> house.addDebt(3, 0, 1));
        Twins.answered("debt to a creditor in default", 1, Twins::busy, house -> house.addDebt(2, 3, 1));
    }

    private static void promise3Limit() {
        Twins.refused("one above the limit", UNSUPPORTED, Twins::busy, house -> house.addDebt(0, 1, 1));
        Twins.refused("one above, to another one", UNSUPPORTED, Twins::busy, house -> house.addDebt(0, 3, 1));
        Twins.answered("just the limit", 73, Twins::busy, house -> house.addDebt(1, 3, 73));
        Twins.refused("one above with other debts", UNSUPPORTED, Twins::busy, house -> house.addDebt(1, 3, 74));
        Twins.answered("one member's limit of 1", 1, () -> roomyPair(1), house -> house.addDebt(0, 1, 1));
        Twins.refused("one above 1", UNSUPPORTED, () -> roomyPair(1), house -> house.addDebt(0, 1, 2));
        Twins.refused("anything above 0", UNSUPPORTED, () -> roomyPair(0), house -> house.addDebt(0, 1, 1));
        Twins.answered("only the debtor's limit counts", 9, () -> roomyPair(0), house -> house.addDebt(1, 0, 9));
        Twins.answered("up to the greatest limit", 500, ChangeBoundsTest::owes499, house -> house.addDebt(0, 1, 1));
        Twins.refused("above the greatest", UNSUPPORTED, ChangeBoundsTest::owes499, house -> house.addDebt(0, 1, 2));
    }

    private static DebtClearing owes499() {
        DebtClearing house = roomyPair(500);
        for (int times = 0; times < 5; times++) {
            house.addDebt(0, 1, 99);
        }
        house.addDebt(0, 1, 4);
        return house;
    }

    private static void promise3ListedFirst() {
        Twins.refused("no debtor, not itself", NO_INDEX, Twins::busy, house -> house.addDebt(4, 4, 5));
        Twins.refused("no debtor, amount", NO_INDEX, Twins::busy, house -> house.addDebt(4, 0, 0));
        Twins.refused("no creditor, amount", NO_INDEX, Twins::busy, house -> house.addDebt(0, 4, 100));
        Twins.refused("no creditor, default", NO_INDEX, Twins::busy, house -> house.addDebt(3, 4, 5));
        Twins.refused("no creditor, limit", NO_INDEX, Twins::busy, house -> house.addDebt(0, 4, 5));
        Twins.refused("itself, default", BAD_ARGUMENT, Twins::busy, house -> house.addDebt(3, 3, 5));
        Twins.refused("itself, limit", BAD_ARGUMENT, Twins::busy, house -> house.addDebt(0, 0, 5));
        Twins.refused("amount, default", BAD_ARGUMENT, Twins::busy, house -> house.addDebt(3, 0, 100));
        Twins.refused("amount, limit", BAD_ARGUMENT, Twins::busy, house -> house.addDebt(0, 1, 100));
        Supplier<DebtClearing> noLimit = () -> {
            DebtClearing house = Twins.busy();
            house.setLimit(3, 0);
            return house;
        };
        Twins.refused("default, limit", BAD_STATE, noLimit, house -> house.addDebt(3, 0, 1));
    }

    private static void promise4Members() {
        members("pay's debtor", (house, index) -> house.pay(index, 1, 5));
        members("pay's creditor", (house, index) -> house.pay(1, index, 5));
        Twins.answered("the first debtor", 30, Twins::full, house -> house.pay(0, 1, 1));
        Twins.answered("the last debtor", 37, Twins::full, house -> house.pay(7, 0, 1));
    }

    private static void promise4SameMember() {
        for (int member = 0; member < 4; member++) {
            int index = member;
            Twins.refused("pay itself", BAD_ARGUMENT, Twins::busy, house -> house.pay(index, index, 5));
        }
    }

    /** Member 0 has 120 coins and owes member 1 an amount of 100. */
    private static DebtClearing rich() {
        DebtClearing house = Houses.with(4, Houses.debt(1, 0, 30), Houses.debt(2, 0, 30), Houses.debt(3, 0, 30));
        for (int debtor = 1; debtor < 4; debtor++) {
            house.pay(debtor, 0, 30);
        }
        house.setLimit(0, 100);
        house.addDebt(0, 1, 99);
        house.addDebt(0, 1, 1);
        return house;
    }

    private static void promise4AmountRange() {
        for (int amount : new int[] {0, 100, -1, Integer.MIN_VALUE, Integer.MAX_VALUE}) {
            Twins.refused("pay " + amount, BAD_ARGUMENT, ChangeBoundsTest::rich, house -> house.pay(0, 1, amount));
        }
        Twins.answered("pay the least amount", 99, ChangeBoundsTest::rich, house -> house.pay(0, 1, 1));
        Twins.answered("pay the greatest amount", 1, ChangeBoundsTest::rich, house -> house.pay(0, 1, 99));
    }

    private static void promise4OwesLess() {
        Twins.refused("one more than owed", BAD_STATE, Twins::busy, house -> house.pay(1, 0, 7));
        Twins.answered("just what is owed", 0, Twins::busy, house -> house.pay(1, 0, 6));
        Twins.refused("nothing is owed", BAD_STATE, Twins::busy, house -> house.pay(2, 1, 1));
        Twins.refused("only the other one owes", BAD_STATE, Twins::busy, house -> house.pay(0, 2, 9));
        Twins.refused("one in default owes nothing", BAD_STATE, Twins::busy, house -> house.pay(3, 0, 1));
    }

    private static void promise4FewerCoins() {
        Supplier<DebtClearing> maker = () -> Houses.with(2, Houses.debt(0, 1, 99));
        Twins.answered("the last coin", 69, maker, house -> house.pay(0, 1, 30));
        Twins.refused("one coin too few", UNSUPPORTED, maker, house -> house.pay(0, 1, 31));
        Supplier<DebtClearing> poor = () -> {
            DebtClearing house = maker.get();
            house.pay(0, 1, 30);
            house.pledge(0, 99);
            return house;
        };
        Twins.refused("no coins, though a collateral", UNSUPPORTED, poor, house -> house.pay(0, 1, 1));
    }

    private static void promise4ListedFirst() {
        Twins.refused("pay, no members, not itself", NO_INDEX, Twins::busy, house -> house.pay(-1, -1, 5));
        Twins.refused("pay, no member, amount", NO_INDEX, Twins::busy, house -> house.pay(0, 4, 0));
        Twins.refused("pay, no member, owes less", NO_INDEX, Twins::busy, house -> house.pay(4, 0, 99));
        Twins.refused("pay, itself, amount 0", BAD_ARGUMENT, Twins::busy, house -> house.pay(0, 0, 0));
        Twins.refused("pay, itself, coins", BAD_ARGUMENT, Twins::busy, house -> house.pay(3, 3, 99));
        Twins.refused("pay, amount, owes less", BAD_ARGUMENT, Twins::busy, house -> house.pay(1, 0, 100));
        Twins.refused("pay, owes less, coins", BAD_STATE, Twins::busy, house -> house.pay(1, 2, 31));
        Twins.refused("pay, owes less, no coins", BAD_STATE, Twins::busy, house -> house.pay(3, 1, 1));
    }

    private static void promise5Members() {
        members("netPair's first", (house, index) -> house.netPair(index, 0));
        members("netPair's second", (house, index) -> house.netPair(0, index));
        members("netPair's both", (house, index) -> house.netPair(index, index));
        Twins.answered("the first and the last", 0, Twins::full, house -> house.netPair(0, 7));
        Twins.answered("the smaller one is the second's", 6, Twins::busy, house -> house.netPair(0, 1));
        Twins.answered("the smaller one is the first's", 6, Twins::busy, house -> house.netPair(1, 0));
        Twins.answered("one in default", 0, Twins::busy, house -> house.netPair(3, 0));
    }

    private static void promise5SameMember() {
        for (int member = 0; member < 4; member++) {
            int index = member;
            Twins.refused("netPair with itself", BAD_ARGUMENT, Twins::busy, house -> house.netPair(index, index));
        }
    }

    private static void promise6Members() {
        members("netTriangle's first", (house, index) -> house.netTriangle(index, 1, 2));
        members("netTriangle's second", (house, index) -> house.netTriangle(2, index, 1));
        members("netTriangle's third", (house, index) -> house.netTriangle(1, 2, index));
        Supplier<DebtClearing> maker = () -> Houses.with(8, Houses.debt(0, 7, 3), Houses.debt(7, 6, 2),
                Houses.debt(6, 0, 4));
        Twins.answered("the first and the last members", 2, maker, house -> house.netTriangle(0, 7, 6));
    }

    private static void promise6SameMembers() {
        Twins.refused("first is second", BAD_ARGUMENT, Twins::busy, house -> house.netTriangle(1, 1, 2));
        Twins.refused("second is third", BAD_ARGUMENT, Twins::busy, house -> house.netTriangle(0, 1, 1));
        Twins.refused("first is third", BAD_ARGUMENT, Twins::busy, house -> house.netTriangle(0, 1, 0));
        Twins.refused("all the same", BAD_ARGUMENT, Twins::busy, house -> house.netTriangle(3, 3, 3));
    }

    private static void promise6NoTriangle() {
        Twins.answered("in this direction", 9, Twins::busy, house -> house.netTriangle(0, 1, 2));
        Twins.answered("from the second member", 9, Twins::busy, house -> house.netTriangle(1, 2, 0));
        Twins.answered("from the third member", 9, Twins::busy, house -> house.netTriangle(2, 0, 1));
        Twins.refused("the other direction", BAD_STATE, Twins::busy, house -> house.netTriangle(0, 2, 1));
        Twins.refused("the other one from 2", BAD_STATE, Twins::busy, house -> house.netTriangle(2, 1, 0));
        Twins.refused("no debts at all", BAD_STATE, () -> Houses.with(3), house -> house.netTriangle(0, 1, 2));
        for (int missing = 0; missing < 3; missing++) {
            int gone = missing;
            Twins.refused("debt paid " + gone, BAD_STATE, () -> ringWithPaid(gone), house -> house.netTriangle(0, 1, 2));
        }
        Twins.answered("debts of 1", 1, () -> ringWithPaid(3), house -> house.netTriangle(0, 1, 2));
    }

    /** A ring of debts of 1; the debt with the index is paid. */
    private static DebtClearing ringWithPaid(int index) {
        DebtClearing house = Houses.with(3, Houses.debt(0, 1, 1), Houses.debt(1, 2, 1), Houses.debt(2, 0, 1));
        if (index < 3) {
            house.pay(index, (index + 1) % 3, 1);
        }
        return house;
    }

    private static void promise6ListedFirst() {
        Twins.refused("no member, the same", NO_INDEX, Twins::busy, house -> house.netTriangle(4, 4, 4));
        Twins.refused("no third, the same", NO_INDEX, Twins::busy, house -> house.netTriangle(1, 1, 4));
        Twins.refused("no first, the same", NO_INDEX, Twins::busy, house -> house.netTriangle(-1, 1, 1));
        Twins.refused("no second, no triangle", NO_INDEX, Twins::busy, house -> house.netTriangle(3, 4, 0));
        Twins.refused("the same, no triangle", BAD_ARGUMENT, Twins::busy, house -> house.netTriangle(3, 3, 0));
    }

    private static void promise7NothingToClear() {
        Twins.answered("no members", 0, DebtClearing::new, DebtClearing::clearAll);
        Twins.answered("one member", 0, () -> Houses.with(1), DebtClearing::clearAll);
        Twins.answered("no debts", 0, () -> Houses.with(8), DebtClearing::clearAll);
        Twins.answered("the least debt", 1, () -> Houses.with(2, Houses.debt(1, 0, 1)), DebtClearing::clearAll);
        Supplier<DebtClearing> even = () -> Houses.with(2, Houses.debt(1, 0, 9), Houses.debt(0, 1, 9));
        Twins.answered("positions of 0", 0, even, DebtClearing::clearAll);
    }

    private static void promise8Members() {
        members("pledge's member", (house, index) -> house.pledge(index, 5));
        Twins.answered("the first member", 5, Twins::full, house -> house.pledge(0, 5));
        Twins.answered("the last member", 5, Twins::full, house -> house.pledge(7, 5));
    }

    private static void promise8AmountRange() {
        for (int amount : new int[] {0, 100, -1, Integer.MIN_VALUE, Integer.MAX_VALUE}) {
            Twins.refused("pledge " + amount, BAD_ARGUMENT, Twins::busy, house -> house.pledge(0, amount));
        }
        Twins.answered("pledge the least amount", 1, Twins::busy, house -> house.pledge(0, 1));
        Twins.answered("pledge the greatest amount", 99, Twins::busy, house -> house.pledge(0, 99));
    }

    private static void promise8MostCollateral() {
        Twins.answered("a collateral of just 99", 99, Twins::busy, house -> house.pledge(1, 9));
        Twins.refused("a collateral of 100", BAD_STATE, Twins::busy, house -> house.pledge(1, 10));
        Twins.refused("far above", BAD_STATE, Twins::busy, house -> house.pledge(1, 99));
        Supplier<DebtClearing> most = () -> {
            DebtClearing house = Houses.with(1);
            house.pledge(0, 99);
            return house;
        };
        Twins.refused("one more than the most", BAD_STATE, most, house -> house.pledge(0, 1));
    }

    private static void promise8ListedFirst() {
        Twins.refused("pledge, no member, amount", NO_INDEX, Twins::busy, house -> house.pledge(4, 0));
        Twins.refused("pledge, amount, collateral", BAD_ARGUMENT, Twins::busy, house -> house.pledge(1, 100));
        Twins.refused("pledge, amount below", BAD_ARGUMENT, Twins::busy, house -> house.pledge(1, -1));
    }

    private static void promise9Members() {
        members("setLimit's member", (house, index) -> house.setLimit(index, 99));
        Twins.answered("limit of the first", 99, Twins::full, house -> house.setLimit(0, 98));
        Twins.answered("limit of the last", 99, Twins::full, house -> house.setLimit(7, 98));
    }

    private static void promise9LimitRange() {
        for (int limit : new int[] {-1, 501, Integer.MIN_VALUE, Integer.MAX_VALUE}) {
            Twins.refused("limit " + limit, BAD_ARGUMENT, Twins::busy, house -> house.setLimit(3, limit));
        }
        for (int limit : new int[] {0, 1, 499, 500}) {
            DebtClearing house = Twins.busy();
            Check.same("limit before " + limit, house.setLimit(3, limit), 99);
            Check.same("limit " + limit, house.limit(3), limit);
        }
        Twins.answered("the previous limit", 40, Twins::busy, house -> house.setLimit(0, 500));
    }

    private static void promise9DebitAboveLimit() {
        Twins.answered("just the debit", 99, Twins::busy, house -> house.setLimit(1, 26));
        Twins.refused("one below the debit", BAD_STATE, Twins::busy, house -> house.setLimit(1, 25));
        Twins.refused("0 with a debit", BAD_STATE, Twins::busy, house -> house.setLimit(2, 0));
        Twins.answered("the debit is 0, the credit is not", 99, () -> Houses.with(2, Houses.debt(0, 1, 9)),
                house -> house.setLimit(1, 0));
    }

    private static void promise9ListedFirst() {
        Twins.refused("limit, no member, range", NO_INDEX, Twins::busy, house -> house.setLimit(4, 501));
        Twins.refused("limit, range, debit", BAD_ARGUMENT, Twins::busy, house -> house.setLimit(1, -1));
    }

    private static void promise10HaircutRange() {
        for (int percent : new int[] {-1, 91, 100, Integer.MIN_VALUE, Integer.MAX_VALUE}) {
            Twins.refused("haircut " + percent, BAD_ARGUMENT, Twins::busy, house -> house.setHaircut(percent));
        }
        for (int percent : new int[] {0, 1, 89, 90}) {
            DebtClearing house = Twins.busy();
            Check.same("haircut before " + percent, house.setHaircut(percent), 25);
            Check.same("haircut " + percent, house.haircut(), percent);
        }
        Twins.answered("haircut without members", 20, DebtClearing::new, house -> house.setHaircut(90));
    }

    private static void promise11Members() {
        members("declareDefault's member", DebtClearing::declareDefault);
        Twins.answered("the first defaults", 1, Twins::full, house -> house.declareDefault(0));
        Twins.answered("the last defaults", 8, Twins::full, house -> house.declareDefault(7));
    }

    private static void promise11InDefault() {
        Twins.refused("in default already", BAD_STATE, Twins::busy, house -> house.declareDefault(3));
        Supplier<DebtClearing> again = () -> {
            DebtClearing house = Twins.busy();
            house.undo();
            house.undo();
            return house;
        };
        Twins.answered("not in default after undo", 20, again, house -> house.declareDefault(3));
    }

    private static void promise11Covered() {
        Twins.refused("30 coins, debit 30", BAD_STATE, () -> Houses.with(2, Houses.debt(0, 1, 30)),
                house -> house.declareDefault(0));
        Twins.answered("30 coins, debit 31", 1, () -> Houses.with(2, Houses.debt(0, 1, 31)),
                house -> house.declareDefault(0));
        Twins.refused("30 coins, cover 4, debit 34", BAD_STATE, () -> pledged(34), house -> house.declareDefault(0));
        Twins.answered("30 coins, cover 4, debit 35", 1, () -> pledged(35), house -> house.declareDefault(0));
        Twins.refused("no debit", BAD_STATE, () -> Houses.with(1), house -> house.declareDefault(0));
        Supplier<DebtClearing> penniless = () -> {
            DebtClearing house = Houses.with(2, Houses.debt(0, 1, 30));
            house.pay(0, 1, 30);
            return house;
        };
        Twins.refused("no debit, no coins", BAD_STATE, penniless, house -> house.declareDefault(0));
    }

    /** The collateral of 6 has a cover of 4, rounded down from 4.8. */
    private static DebtClearing pledged(int debt) {
        DebtClearing house = Houses.with(2, Houses.debt(0, 1, debt));
        house.pledge(0, 6);
        return house;
    }
}
