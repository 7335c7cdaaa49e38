import java.util.NoSuchElementException;
import java.util.function.BiFunction;
import java.util.function.Function;
import java.util.function.Supplier;

/**
 * Promises 12 to 41, each "Throws" sentence and each range by itself, the empty and the full case, and that asking
 * changes nothing.
 */
public final class QueryBoundsTest {
    private static final Class<IndexOutOfBoundsException> NO_INDEX = IndexOutOfBoundsException.class;
    private static final Class<IllegalArgumentException> BAD_ARGUMENT = IllegalArgumentException.class;
    private static final Class<IllegalStateException> BAD_STATE = IllegalStateException.class;
    private static final Class<NoSuchElementException> NOT_FOUND = NoSuchElementException.class;
    private static final Class<ArithmeticException> NO_MEAN = ArithmeticException.class;

    public static void main(String[] args) {
        promise12MemberCount();
        promise13Coins();
        promise14Collateral();
        promise15Cover();
        promise16Limit();
        promise17IsInDefault();
        promise18Haircut();
        promise19Owed();
        promise20DebtCount();
        promise21Debit();
        promise22Credit();
        promise23Position();
        promise24PositionByAccount();
        promise25TotalDebt();
        promise26LargestDebtor();
        promise27LargestCreditor();
        promise28Triangles();
        promise29TrianglesByProduct();
        promise30ReachCount();
        promise31ReachCountByRounds();
        promise32Reaches();
        promise33DebtsAfterClearing();
        promise34LossIfDefault();
        promise35ShareIfDefault();
        promise36MemberByPosition();
        promise37NettedAmount();
        promise38LostAmount();
        promise39MeanPosition();
        promise40DebtShare();
        promise41IsConsistent();
        Check.finish();
    }

    /** No index but 0 to 3 is one of four members, none is one of no members, and 0 to 7 are those of eight. */
    private static void members(String what, BiFunction<DebtClearing, Integer, Object> call) {
        for (int index : new int[] {-1, 4, 7, 8, Integer.MIN_VALUE, Integer.MAX_VALUE}) {
            Twins.refused(what + " " + index, NO_INDEX, Twins::busy, house -> call.apply(house, index));
        }
        Twins.refused(what + " without members", NO_INDEX, DebtClearing::new, house -> call.apply(house, 0));
        Twins.refused(what + " behind the last of eight", NO_INDEX, Twins::full, house -> call.apply(house, 8));
        Twins.refused(what + " before the first of eight", NO_INDEX, Twins::full, house -> call.apply(house, -1));
    }

    /** The answers for the members 0 to 3 of the busy house, and for the first and the last of the full one. */
    private static void answers(String what, BiFunction<DebtClearing, Integer, Object> call, Object[] ofBusy,
            Object first, Object last) {
        members(what, call);
        for (int member = 0; member < 4; member++) {
            int index = member;
            Twins.onlyAnswers(what + " " + member, ofBusy[member], Twins::busy, house -> call.apply(house, index));
        }
        Twins.onlyAnswers(what + " of the first of eight", first, Twins::full, house -> call.apply(house, 0));
        Twins.onlyAnswers(what + " of the last of eight", last, Twins::full, house -> call.apply(house, 7));
    }

    private static void empty(String what, Object want, Function<DebtClearing, Object> call) {
        Twins.onlyAnswers(what + " without members", want, DebtClearing::new, call);
    }

    /** The full house, in which each member owes each other one 14. */
    private static DebtClearing complete() {
        DebtClearing house = Houses.with(8);
        for (int place = 0; place < 64; place++) {
            if (place / 8 != place % 8) {
                house.addDebt(place / 8, place % 8, 14);
            }
        }
        return house;
    }

    private static void promise12MemberCount() {
        empty("memberCount", 0, DebtClearing::memberCount);
        Twins.onlyAnswers("memberCount", 4, Twins::busy, DebtClearing::memberCount);
        Twins.onlyAnswers("memberCount, full", 8, Twins::full, DebtClearing::memberCount);
    }

    private static void promise13Coins() {
        answers("coins", DebtClearing::coins, new Object[] {60, 30, 30, 0}, 30, 30);
    }

    private static void promise14Collateral() {
        answers("collateral", DebtClearing::collateral, new Object[] {0, 90, 0, 0}, 0, 0);
    }

    private static void promise15Cover() {
        answers("cover", DebtClearing::cover, new Object[] {0, 67, 0, 0}, 0, 0);
    }

    private static void promise16Limit() {
        answers("limit", DebtClearing::limit, new Object[] {40, 99, 99, 99}, 99, 99);
    }

    private static void promise17IsInDefault() {
        answers("isInDefault", DebtClearing::isInDefault, new Object[] {false, false, false, true}, false, false);
    }

    private static void promise18Haircut() {
        empty("haircut", 20, DebtClearing::haircut);
        Twins.onlyAnswers("haircut", 25, Twins::busy, DebtClearing::haircut);
    }

    private static void promise19Owed() {
        members("owed's debtor", (house, index) -> house.owed(index, 0));
        members("owed's creditor", (house, index) -> house.owed(0, index));
        members("owed, no member goes before itself", (house, index) -> house.owed(index, index));
        for (int member = 0; member < 4; member++) {
            int index = member;
            Twins.refused("owed to itself", BAD_ARGUMENT, Twins::busy, house -> house.owed(index, index));
        }
        Twins.onlyAnswers("owed", 40, Twins::busy, house -> house.owed(0, 1));
        Twins.onlyAnswers("owed back", 6, Twins::busy, house -> house.owed(1, 0));
        Twins.onlyAnswers("0 if it owes nothing", 0, Twins::busy, house -> house.owed(2, 1));
        Twins.onlyAnswers("0 after a default", 0, Twins::busy, house -> house.owed(3, 0));
        Twins.onlyAnswers("owed by the first to the last", 0, Twins::full, house -> house.owed(0, 7));
        Twins.onlyAnswers("owed by the last to the first", 38, Twins::full, house -> house.owed(7, 0));
    }

    private static void promise20DebtCount() {
        empty("debtCount", 0, DebtClearing::debtCount);
        Twins.onlyAnswers("debtCount without debts", 0, () -> Houses.with(8), DebtClearing::debtCount);
        Twins.onlyAnswers("debtCount", 4, Twins::busy, DebtClearing::debtCount);
        Twins.onlyAnswers("debtCount, all", 56, QueryBoundsTest::complete, DebtClearing::debtCount);
        Supplier<DebtClearing> least = () -> Houses.with(2, Houses.debt(1, 0, 1));
        Twins.onlyAnswers("a debt of 1 is positive", 1, least, DebtClearing::debtCount);
        Supplier<DebtClearing> paid = () -> {
            DebtClearing house = least.get();
            house.pay(1, 0, 1);
            return house;
        };
        Twins.onlyAnswers("a debt of 0 is not positive", 0, paid, DebtClearing::debtCount);
    }

    private static void promise21Debit() {
        answers("debit", DebtClearing::debit, new Object[] {40, 26, 9, 0}, 31, 38);
        Check.same("debit, all", complete().debit(7), 98);
    }

    private static void promise22Credit() {
        answers("credit", DebtClearing::credit, new Object[] {15, 40, 20, 0}, 38, 37);
        Check.same("credit, all", complete().credit(7), 98);
    }

    private static void promise23Position() {
        answers("position", DebtClearing::position, new Object[] {-25, 14, 11, 0}, 7, -1);
        Check.same("position, all", complete().position(7), 0);
    }

    private static void promise24PositionByAccount() {
        answers("positionByAccount", DebtClearing::positionByAccount, new Object[] {-25, 14, 11, 0}, 7, -1);
        Check.same("positionByAccount, all", complete().positionByAccount(7), 0);
    }

    private static void promise25TotalDebt() {
        empty("totalDebt", 0, DebtClearing::totalDebt);
        Twins.onlyAnswers("totalDebt without debts", 0, () -> Houses.with(8), DebtClearing::totalDebt);
        Twins.onlyAnswers("totalDebt", 75, Twins::busy, DebtClearing::totalDebt);
        Twins.onlyAnswers("totalDebt, all", 784, QueryBoundsTest::complete, DebtClearing::totalDebt);
    }

    private static void promise26LargestDebtor() {
        Twins.refused("largestDebtor, no members", NOT_FOUND, DebtClearing::new, DebtClearing::largestDebtor);
        Twins.refused("largestDebtor, no debts", NOT_FOUND, () -> Houses.with(8), DebtClearing::largestDebtor);
        Twins.onlyAnswers("largestDebtor", 0, Twins::busy, DebtClearing::largestDebtor);
        Twins.onlyAnswers("largestDebtor, the last", 7, Twins::full, DebtClearing::largestDebtor);
        Twins.onlyAnswers("the least debtor", 0, QueryBoundsTest::complete, DebtClearing::largestDebtor);
        Supplier<DebtClearing> crossed = () -> Houses.with(4, Houses.debt(2, 0, 9), Houses.debt(1, 3, 9));
        Twins.onlyAnswers("the least debtor, not the least creditor", 1, crossed, DebtClearing::largestDebtor);
        Supplier<DebtClearing> spread = () -> Houses.with(4, Houses.debt(1, 0, 8), Houses.debt(1, 2, 8),
                Houses.debt(3, 2, 9));
        Twins.onlyAnswers("the largest debt, not the largest debit", 3, spread, DebtClearing::largestDebtor);
        Supplier<DebtClearing> least = () -> Houses.with(2, Houses.debt(1, 0, 1));
        Twins.onlyAnswers("the least debt", 1, least, DebtClearing::largestDebtor);
    }

    private static void promise27LargestCreditor() {
        Twins.refused("largestCreditor, no members", NOT_FOUND, DebtClearing::new, DebtClearing::largestCreditor);
        Twins.refused("largestCreditor, no debts", NOT_FOUND, () -> Houses.with(8), DebtClearing::largestCreditor);
        Twins.onlyAnswers("largestCreditor", 1, Twins::busy, DebtClearing::largestCreditor);
        Twins.onlyAnswers("the least creditor of the least debtor", 1, QueryBoundsTest::complete,
                DebtClearing::largestCreditor);
        Supplier<DebtClearing> crossed = () -> Houses.with(4, Houses.debt(2, 0, 9), Houses.debt(1, 3, 9));
        Twins.onlyAnswers("the creditor of that debtor", 3, crossed, DebtClearing::largestCreditor);
        Supplier<DebtClearing> two = () -> Houses.with(8, Houses.debt(1, 7, 9), Houses.debt(1, 2, 9));
        Twins.onlyAnswers("then the least creditor", 2, two, DebtClearing::largestCreditor);
        Supplier<DebtClearing> last = () -> Houses.with(8, Houses.debt(6, 7, 1));
        Twins.onlyAnswers("the last creditor", 7, last, DebtClearing::largestCreditor);
    }

    private static void promise28Triangles() {
        triangles("triangles", DebtClearing::triangles);
    }

    private static void promise29TrianglesByProduct() {
        triangles("trianglesByProduct", DebtClearing::trianglesByProduct);
    }

    private static void triangles(String what, Function<DebtClearing, Object> call) {
        empty(what, 0, call);
        Twins.onlyAnswers(what + " of two members", 0,
                () -> Houses.with(2, Houses.debt(0, 1, 5), Houses.debt(1, 0, 5)), call);
        Twins.onlyAnswers(what, 1, Twins::busy, call);
        Twins.onlyAnswers(what + " of a ring of eight", 0, Twins::full, call);
        Twins.onlyAnswers(what + " of all", 112, QueryBoundsTest::complete, call);
        Supplier<DebtClearing> last = () -> Houses.with(8, Houses.debt(7, 6, 1), Houses.debt(6, 5, 1),
                Houses.debt(5, 7, 1));
        Twins.onlyAnswers(what + " of the last three", 1, last, call);
    }

    private static void promise30ReachCount() {
        answers("reachCount", DebtClearing::reachCount, new Object[] {2, 2, 2, 0}, 7, 7);
        Check.same("reachCount without debts", Houses.with(8).reachCount(0), 0);
    }

    private static void promise31ReachCountByRounds() {
        answers("reachCountByRounds", DebtClearing::reachCountByRounds, new Object[] {2, 2, 2, 0}, 7, 7);
        Check.same("reachCountByRounds without debts", Houses.with(8).reachCountByRounds(0), 0);
    }

    private static void promise32Reaches() {
        members("reaches from", (house, index) -> house.reaches(index, 0));
        members("reaches to", (house, index) -> house.reaches(0, index));
        members("reaches, no member goes before itself", (house, index) -> house.reaches(index, index));
        for (int member = 0; member < 4; member++) {
            int index = member;
            Twins.refused("reaches itself", BAD_ARGUMENT, Twins::busy, house -> house.reaches(index, index));
        }
        Twins.onlyAnswers("reaches by one debt", true, Twins::busy, house -> house.reaches(2, 0));
        Twins.onlyAnswers("reaches by two debts", true, Twins::busy, house -> house.reaches(2, 1));
        Twins.onlyAnswers("is not reached", false, Twins::busy, house -> house.reaches(2, 3));
        Twins.onlyAnswers("does not reach", false, Twins::busy, house -> house.reaches(3, 0));
        Twins.onlyAnswers("reaches by seven debts", true, Twins::full, house -> house.reaches(0, 7));
    }

    private static void promise33DebtsAfterClearing() {
        empty("debtsAfterClearing", 0, DebtClearing::debtsAfterClearing);
        Twins.onlyAnswers("debtsAfterClearing without debts", 0, () -> Houses.with(8),
                DebtClearing::debtsAfterClearing);
        Twins.onlyAnswers("debtsAfterClearing", 2, Twins::busy, DebtClearing::debtsAfterClearing);
        Twins.onlyAnswers("debtsAfterClearing of even debts", 0, QueryBoundsTest::complete,
                DebtClearing::debtsAfterClearing);
        Supplier<DebtClearing> least = () -> Houses.with(2, Houses.debt(1, 0, 1));
        Twins.onlyAnswers("debtsAfterClearing of the least debt", 1, least, DebtClearing::debtsAfterClearing);
        Check.same("as clearAll", Twins.full().clearAll(), Twins.full().debtsAfterClearing());
    }

    private static void promise34LossIfDefault() {
        members("lossIfDefault", DebtClearing::lossIfDefault);
        Twins.refused("lossIfDefault in default", BAD_STATE, Twins::busy, house -> house.lossIfDefault(3));
        Twins.refused("lossIfDefault, covered", BAD_STATE, Twins::busy, house -> house.lossIfDefault(1));
        Twins.refused("lossIfDefault, no debit", BAD_STATE, () -> Houses.with(1), house -> house.lossIfDefault(0));
        Twins.refused("lossIfDefault, just covered", BAD_STATE, () -> owing(30), house -> house.lossIfDefault(0));
        Twins.onlyAnswers("lossIfDefault, one short", 1, () -> owing(31), house -> house.lossIfDefault(0));
        Twins.onlyAnswers("lossIfDefault of the last", 8, Twins::full, house -> house.lossIfDefault(7));
    }

    private static DebtClearing owing(int amount) {
        return Houses.with(3, Houses.debt(0, 1, amount));
    }

    private static void promise35ShareIfDefault() {
        members("shareIfDefault's member", (house, index) -> house.shareIfDefault(index, 0));
        members("shareIfDefault's creditor", (house, index) -> house.shareIfDefault(0, index));
        members("shareIfDefault, no member goes before itself", (house, index) -> house.shareIfDefault(index, index));
        members("shareIfDefault, no creditor goes before default", (house, index) -> house.shareIfDefault(3, index));
        Twins.refused("itself goes before default", BAD_ARGUMENT, Twins::busy, house -> house.shareIfDefault(3, 3));
        Twins.refused("itself, which can default", BAD_ARGUMENT, () -> owing(31), house -> house.shareIfDefault(0, 0));
        Twins.refused("share, in default", BAD_STATE, Twins::busy, house -> house.shareIfDefault(3, 0));
        Twins.refused("share, covered", BAD_STATE, Twins::busy, house -> house.shareIfDefault(1, 0));
        Twins.refused("share, just covered", BAD_STATE, () -> owing(30), house -> house.shareIfDefault(0, 1));
        Twins.onlyAnswers("share, one short", 30, () -> owing(31), house -> house.shareIfDefault(0, 1));
        Twins.onlyAnswers("share of no creditor", 0, () -> owing(31), house -> house.shareIfDefault(0, 2));
        Twins.onlyAnswers("share of the first from the last", 30, Twins::full, house -> house.shareIfDefault(7, 0));
    }

    private static void promise36MemberByPosition() {
        for (int rank : new int[] {-1, 4, 7, 8, Integer.MIN_VALUE, Integer.MAX_VALUE}) {
            Twins.refused("rank " + rank, NOT_FOUND, Twins::busy, house -> house.memberByPosition(rank));
        }
        Twins.refused("rank without members", NOT_FOUND, DebtClearing::new, house -> house.memberByPosition(0));
        Twins.refused("rank 8", NOT_FOUND, Twins::full, house -> house.memberByPosition(8));
        int[] ofBusy = {1, 2, 3, 0};
        int[] ofFull = {0, 1, 2, 3, 4, 5, 6, 7};
        for (int place = 0; place < 8; place++) {
            int rank = place;
            Twins.onlyAnswers("rank of full", ofFull[rank], Twins::full, house -> house.memberByPosition(rank));
            if (rank < 4) {
                Twins.onlyAnswers("rank of busy", ofBusy[rank], Twins::busy, house -> house.memberByPosition(rank));
            }
        }
        Supplier<DebtClearing> one = () -> Houses.with(1);
        Twins.onlyAnswers("rank 0 of one", 0, one, house -> house.memberByPosition(0));
        Twins.refused("rank 1 of one", NOT_FOUND, one, house -> house.memberByPosition(1));
    }

    private static void promise37NettedAmount() {
        empty("nettedAmount", 0, DebtClearing::nettedAmount);
        Twins.onlyAnswers("nettedAmount without netting", 0, Twins::busy, DebtClearing::nettedAmount);
        DebtClearing house = Twins.busy();
        house.netPair(2, 3);
        Check.same("a netting of 0", house.nettedAmount(), 0);
        house.netTriangle(0, 1, 2);
        Check.same("three debts by 9", house.nettedAmount(), 27);
        house.netPair(1, 0);
        Check.same("two debts by 6 besides", house.nettedAmount(), 39);
    }

    private static void promise38LostAmount() {
        empty("lostAmount", 0, DebtClearing::lostAmount);
        Twins.onlyAnswers("lostAmount", 20, Twins::busy, DebtClearing::lostAmount);
        Twins.onlyAnswers("lostAmount without default", 0, Twins::full, DebtClearing::lostAmount);
        DebtClearing house = owing(31);
        house.declareDefault(0);
        Check.same("the least loss", house.lostAmount(), 1);
    }

    private static void promise39MeanPosition() {
        Twins.refused("mean without members", NO_MEAN, DebtClearing::new, DebtClearing::meanPosition);
        Twins.onlyAnswers("mean of one", 0.0, () -> Houses.with(1), DebtClearing::meanPosition);
        Twins.onlyAnswers("mean", 12.5, Twins::busy, DebtClearing::meanPosition);
        Twins.onlyAnswers("mean of eight", 1.75, Twins::full, DebtClearing::meanPosition);
        Twins.onlyAnswers("mean is a double", 62.0 / 3.0, () -> owing(31), DebtClearing::meanPosition);
        DebtClearing house = new DebtClearing();
        house.addMember();
        house.undo();
        Check.throwing("mean after the only member is undone", NO_MEAN, house::meanPosition);
    }

    private static void promise40DebtShare() {
        Twins.refused("share without members", NO_MEAN, DebtClearing::new, DebtClearing::debtShare);
        Twins.refused("share of one member", NO_MEAN, () -> Houses.with(1), DebtClearing::debtShare);
        Twins.onlyAnswers("share of two members", 0.0f, () -> Houses.with(2), DebtClearing::debtShare);
        Twins.onlyAnswers("share", 4.0f / 12.0f, Twins::busy, DebtClearing::debtShare);
        Twins.onlyAnswers("share of eight", 8.0f / 56.0f, Twins::full, DebtClearing::debtShare);
        Twins.onlyAnswers("share of all", 1.0f, QueryBoundsTest::complete, DebtClearing::debtShare);
        DebtClearing house = Houses.with(2);
        house.undo();
        Check.throwing("share after the second member is undone", NO_MEAN, house::debtShare);
    }

    private static void promise41IsConsistent() {
        empty("isConsistent", true, DebtClearing::isConsistent);
        Twins.onlyAnswers("isConsistent", true, Twins::busy, DebtClearing::isConsistent);
        Twins.onlyAnswers("isConsistent, full", true, Twins::full, DebtClearing::isConsistent);
        Twins.onlyAnswers("isConsistent, all", true, QueryBoundsTest::complete, DebtClearing::isConsistent);
    }
}
