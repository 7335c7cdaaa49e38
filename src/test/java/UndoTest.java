/** Promises 48 to 51: undo, save and restore. */
public final class UndoTest {
    private static final Class<IllegalStateException> BAD_STATE = IllegalStateException.class;

    public static void main(String[] args) {
        promise48UndoCount();
        promise49UndoEachCall();
        promise49EightLatest();
        promise49UndoThenGoOn();
        promise50Save();
        promise51Restore();
        promise51RestoreForgetsUndos();
        Check.finish();
    }

    private static void promise48UndoCount() {
        DebtClearing house = new DebtClearing();
        for (int call = 1; call <= 12; call++) {
            house.clearAll();
            Check.same("undoCount after " + call, house.undoCount(), Math.min(call, 8));
        }
        Check.throwing("refused", IllegalArgumentException.class, () -> house.setHaircut(91));
        Check.same("undoCount after a refused call", house.undoCount(), 8);
        house.undo();
        Check.same("undoCount after undo", house.undoCount(), 7);
    }

    private static void promise49UndoEachCall() {
        DebtClearing house = Houses.with(4, Houses.debt(0, 1, 40), Houses.debt(1, 0, 5), Houses.debt(1, 2, 9));
        house.addDebt(2, 0, 9);
        Check.Call[] calls = {
            house::addMember, () -> house.addDebt(3, 0, 8), () -> house.pay(0, 1, 7), () -> house.netPair(0, 1),
            () -> house.netTriangle(0, 1, 2), house::clearAll, () -> house.pledge(1, 8),
            () -> house.setLimit(2, 400), () -> house.setHaircut(5), () -> house.declareDefault(0),
            () -> Houses.run(house, "member;pledge 0 5"), () -> house.netPair(2, 3)};
        for (int index = 0; index < calls.length; index++) {
            String before = Houses.state(house);
            calls[index].answer();
            Check.same("recorded " + index, house.undoCount(), 8);
            Check.same("undo " + index, house.undo(), 7);
            Check.same("state after undo " + index, Houses.state(house), before);
            Check.same("consistent after undo " + index, house.isConsistent(), true);
        }
    }

    private static void promise49EightLatest() {
        DebtClearing house = new DebtClearing();
        Check.throwing("nothing to undo", BAD_STATE, house::undo);
        for (int percent = 0; percent < 11; percent++) {
            house.setHaircut(percent);
        }
        for (int left = 7; left >= 0; left--) {
            Check.same("undo", house.undo(), left);
            Check.same("haircut", house.haircut(), left + 2);
        }
        Check.throwing("no ninth undo", BAD_STATE, house::undo);
        Check.same("haircut stays", house.haircut(), 2);
    }

    private static void promise49UndoThenGoOn() {
        DebtClearing house = new DebtClearing();
        house.addMember();
        house.addMember();
        house.undo();
        house.undo();
        Check.same("no members", house.memberCount(), 0);
        Check.same("index again", house.addMember(), 0);
        house.pledge(0, 5);
        house.undo();
        house.setLimit(0, 3);
        Check.same("undo goes to the call before", house.undo(), 1);
        Check.same("limit", house.limit(0), 99);
        Check.same("collateral", house.collateral(0), 0);
        Check.same("undo", house.undo(), 0);
        Check.same("fresh member after undo", house.addMember(), 0);
        Check.same("fresh coins", house.coins(0), 30);
    }

    private static void promise50Save() {
        DebtClearing house = Houses.with(3, Houses.debt(0, 1, 40));
        Check.same("save", house.save(), 3);
        Check.same("not recorded", house.undoCount(), 4);
        house.addMember();
        Check.same("save again", house.save(), 4);
        house.undo();
        house.undo();
        Check.same("undo goes behind save", house.debtCount(), 0);
        Check.same("the later one", house.restore(), 4);
        Check.same("its debt", house.owed(0, 1), 40);
        Check.same("save of nothing", new DebtClearing().save(), 0);
    }

    private static void promise51Restore() {
        DebtClearing house = Houses.with(3, Houses.debt(0, 1, 40), Houses.debt(1, 0, 4), Houses.debt(2, 0, 50));
        Check.throwing("no state saved", BAD_STATE, house::restore);
        house.netPair(0, 1);
        house.declareDefault(2);
        house.setHaircut(33);
        house.setLimit(1, 444);
        house.pledge(1, 44);
        house.save();
        String saved = Houses.state(house);
        house.addMember();
        house.pledge(2, 9);
        house.pay(0, 1, 30);
        house.addDebt(0, 1, 40);
        house.declareDefault(0);
        house.setHaircut(3);
        house.setLimit(1, 9);
        Check.same("restore", house.restore(), 3);
        Check.same("state", Houses.state(house), saved);
        house.clearAll();
        house.addMember();
        Check.same("restore again", house.restore(), 3);
        Check.same("the saved state is kept", Houses.state(house), saved);
        Check.same("consistent", house.isConsistent(), true);
    }

    private static void promise51RestoreForgetsUndos() {
        DebtClearing house = Houses.with(3);
        house.save();
        house.addMember();
        house.restore();
        Check.same("undoCount", house.undoCount(), 0);
        Check.throwing("undo", BAD_STATE, house::undo);
        house.addMember();
        Check.same("undo after restore", house.undo(), 0);
        Check.same("members", house.memberCount(), 3);
    }
}
