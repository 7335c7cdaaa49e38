import java.util.function.Function;
import java.util.function.Supplier;

/** Compares two houses that are made alike: a refused call on the one must leave it as the other is. */
final class Twins {
    private Twins() {
    }

    /** Checks the exception, and that nothing that can be seen later tells the call from no call. */
    static void refused(String what, Class<? extends RuntimeException> want, Supplier<DebtClearing> maker,
            Function<DebtClearing, Object> call) {
        DebtClearing touched = maker.get();
        DebtClearing left = maker.get();
        Check.throwing(what, want, () -> call.apply(touched));
        Check.same("after refused " + what, whole(touched), whole(left));
    }

    static void answered(String what, Object want, Supplier<DebtClearing> maker, Function<DebtClearing, Object> call) {
        DebtClearing house = maker.get();
        Check.same(what, Check.outcome(() -> call.apply(house)), want);
    }

    /** Checks that a call answers as it should and leaves its house as it was, the undos too. */
    static void onlyAnswers(String what, Object want, Supplier<DebtClearing> maker,
            Function<DebtClearing, Object> call) {
        DebtClearing touched = maker.get();
        Check.same(what, Check.outcome(() -> call.apply(touched)), want);
        Check.same("after asking " + what, whole(touched), whole(maker.get()));
    }

    /**
     * Four members 0 to 3: 0 is at its limit of 40, member 1 has a collateral of 90, 3 is in default. A state is
     * saved, there is output, an error position and a failed command, and the buffer waits for an "r".
     */
    static DebtClearing busy() {
        DebtClearing house = Houses.with(4, Houses.debt(0, 1, 40), Houses.debt(1, 0, 6), Houses.debt(1, 2, 20),
                Houses.debt(2, 0, 9), Houses.debt(3, 0, 50));
        house.setHaircut(25);
        house.save();
        house.pledge(1, 90);
        house.declareDefault(3);
        house.setLimit(0, 40);
        house.writeDebts(0);
        Houses.run(house, "netz");
        Houses.run(house, "member;fail 3");
        Houses.feed(house, "membe");
        return house;
    }

    /** Eight members, each with an index of its own in its debts. */
    static DebtClearing full() {
        DebtClearing house = Houses.with(8);
        for (int member = 0; member < 8; member++) {
            house.addDebt(member, (member + 1) % 8, 31 + member);
        }
        return house;
    }

    /** All that a house can still tell. It runs its buffer, its undos and its saved state, and so uses the house up. */
    private static String whole(DebtClearing house) {
        StringBuilder text = new StringBuilder();
        append(text, house);
        text.append("\nfeed ").append(Check.outcome(() -> house.feed('r')));
        text.append(", run ").append(Check.outcome(house::runCommands));
        append(text, house);
        while (house.undoCount() > 0) {
            text.append("\nundo ").append(house.undo());
            append(text, house);
        }
        text.append("\nrestore ").append(Check.outcome(house::restore));
        append(text, house);
        return text.toString();
    }

    private static void append(StringBuilder text, DebtClearing house) {
        text.append('\n').append(Houses.state(house)).append(", undos ").append(house.undoCount());
        text.append(", error ").append(Check.outcome(house::errorPosition));
        text.append(", failed ").append(Check.outcome(house::failedCommand)).append(", output ");
        for (int index = 0; index < 60; index++) {
            int place = index;
            Object character = Check.outcome(() -> house.outputChar(place));
            if (character instanceof Class) {
                return;
            }
            text.append(character);
        }
    }
}
