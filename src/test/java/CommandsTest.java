import java.util.NoSuchElementException;

/** Promises 42 to 47: the input buffer, the commands and the output. */
public final class CommandsTest {
    private static final Class<IllegalArgumentException> MALFORMED = IllegalArgumentException.class;
    private static final Class<UnsupportedOperationException> FAILED = UnsupportedOperationException.class;
    private static final Class<NoSuchElementException> NOT_FOUND = NoSuchElementException.class;

    public static void main(String[] args) {
        promise42Feed();
        promise43EachCommand();
        promise43Amounts();
        promise43FailureKeepsState();
        promise43BufferIsEmptied();
        promise43FullBuffer();
        promise44ErrorPosition();
        promise44ErrorPositionIsKept();
        promise45FailedCommand();
        promise45FailuresOfEachCommand();
        promise46WriteDebts();
        promise47OutputChar();
        Check.finish();
    }

    private static void promise42Feed() {
        DebtClearing house = new DebtClearing();
        for (int length = 1; length <= 60; length++) {
            Check.same("feed", house.feed((char) (length * 1111)), length);
        }
        Check.throwing("feed 61", IllegalStateException.class, () -> house.feed('x'));
        Check.throwing("feed 62", IllegalStateException.class, () -> house.feed('x'));
        Check.throwing("60 characters of nothing", MALFORMED, house::runCommands);
        Check.same("feed again", house.feed('x'), 1);
    }

    private static void promise43EachCommand() {
        DebtClearing house = new DebtClearing();
        Check.same("member", Houses.run(house, "member"), 1);
        Check.same("members", Houses.run(house, "member;member;member"), 3);
        Check.same("memberCount", house.memberCount(), 4);
        Check.same("debt", Houses.run(house, "debt 0 1 40;debt 1 0 7;debt 1 2 30;debt 2 0 9"), 4);
        Check.same("owed", house.owed(0, 1), 40);
        Check.same("net", Houses.run(house, "net 0 1"), 1);
        Check.same("owed after net", house.owed(0, 1), 33);
        Check.same("ring", Houses.run(house, "ring 012"), 1);
        Check.same("owed after ring", house.owed(2, 0), 0);
        Check.same("netted", house.nettedAmount(), 41);
        Check.same("pay", Houses.run(house, "pay 0 1 4"), 1);
        Check.same("coins after pay", house.coins(0), 26);
        Check.same("pledge", Houses.run(house, "pledge 1 5"), 1);
        Check.same("collateral", house.collateral(1), 5);
        Check.same("clear", Houses.run(house, "clear"), 1);
        Check.same("owed after clear", house.owed(0, 2), 20);
        Check.same("fail", Houses.run(house, "debt 0 3 40;fail 0"), 2);
        Check.same("in default", house.isInDefault(0), true);
        Check.same("lost", house.lostAmount(), 34);
        Check.same("consistent", house.isConsistent(), true);
    }

    private static void promise43Amounts() {
        DebtClearing house = Houses.with(2);
        Check.same("one digit", Houses.run(house, "debt 0 1 7"), 1);
        Check.same("two digits", Houses.run(house, "debt 0 1 17"), 1);
        Check.same("a zero in front", Houses.run(house, "debt 0 1 03"), 1);
        Check.same("owed", house.owed(0, 1), 27);
        Check.same("amount 0 is well-formed", Houses.run(house, "debt 0 1 0"), FAILED);
        Check.same("amount 00 is well-formed", Houses.run(house, "pay 0 1 00"), FAILED);
        Check.same("greatest amount", Houses.run(house, "debt 1 0 99"), 1);
    }

    private static void promise43FailureKeepsState() {
        DebtClearing house = Houses.with(2, Houses.debt(0, 1, 40));
        house.pledge(1, 5);
        String before = Houses.state(house);
        Check.same("failing", Houses.run(house, "member;net 0 1;fail 0;debt 1 0 5;clear;pledge 0 9;ring 012"), FAILED);
        Check.same("state", Houses.state(house), before);
        Check.same("not recorded", house.undoCount(), 4);
        Check.same("consistent", house.isConsistent(), true);
        Check.same("malformed", Houses.run(house, "member;membr"), MALFORMED);
        Check.same("state", Houses.state(house), before);
        Check.same("not recorded", house.undoCount(), 4);
    }

    private static void promise43BufferIsEmptied() {
        DebtClearing house = new DebtClearing();
        Houses.run(house, "member");
        Check.same("after success", house.feed('m'), 1);
        Houses.run(house, "x");
        Check.same("after a malformed text", house.feed('m'), 1);
        Houses.run(house, "ember;fail 0");
        Check.same("after a failure", house.feed('m'), 1);
        Check.same("memberCount", house.memberCount(), 1);
        house.undo();
        house.save();
        house.restore();
        Check.same("buffer is no part of the state", house.feed('e'), 2);
    }

    private static void promise43FullBuffer() {
        DebtClearing house = new DebtClearing();
        Check.same("ten commands", Houses.run(house, "clear;clear;clear;clear;clear;clear;clear;clear;clear;clear"), 10);
        Check.same("one call recorded", house.undoCount(), 1);
        Check.same("60 characters", Houses.run(house, "member;member;member;member;member;member;member;member;clea"),
                MALFORMED);
        Check.same("error at the end", house.errorPosition(), 60);
        Check.same("60 characters", Houses.run(house, "member;member;member;member;member;member;member;member;fail"),
                MALFORMED);
        String full = "member;member;member;debt 0 1 9;debt 1 2 9;debt 2 0 9;net 01";
        Check.same("length", full.length(), 60);
        Check.same("error in a full text", Houses.run(house, full), MALFORMED);
        Check.same("its position", house.errorPosition(), 59);
        Check.same("nine members", Houses.run(house, "member;member;member;member;member;member;member;member"), 8);
        Check.same("one more", Houses.run(house, "member"), FAILED);
    }

    private static void promise44ErrorPosition() {
        Object[][] texts = {
            {"", 0}, {";", 0}, {"x", 0}, {" member", 0}, {"Member", 0}, {"m", 1}, {"mem", 3}, {"membre", 4},
            {"member;", 7}, {"member;;", 7}, {"member ", 6}, {"member; member", 7}, {"memberx", 6},
            {"p", 1}, {"px", 1}, {"pa", 2}, {"pl", 2}, {"pax", 2}, {"plx", 2}, {"pay", 3}, {"pays", 3},
            {"pay ", 4}, {"pay  0 1 5", 4}, {"pay 0", 5}, {"pay 01 1 5", 5}, {"pay 0 1", 7}, {"pay 0 1 ", 8},
            {"pay 0 1 x", 8}, {"pay 0 1 5x", 9}, {"pay 0 1 55x", 10}, {"pay 0 1 555", 10}, {"pay 0 1 5 ", 9},
            {"pay 0 1 -5", 8}, {"debt 0 1 5;", 11}, {"debt 0 1 5;d", 12}, {"debt 0 a 5", 7}, {"debt", 4},
            {"deby", 3}, {"net 0 1 ", 7}, {"net 0 12", 7}, {"net 0", 5}, {"net a", 4}, {"nett", 3},
            {"ring 01", 7}, {"ring 0 1 2", 6}, {"ring 0123", 8}, {"ring012", 4}, {"rinh", 3}, {"clears", 5},
            {"clear 1", 5}, {"clea;", 4}, {"pledge 0 5 1", 10}, {"pledge 0", 8}, {"pledge 10 5", 8}, {"plege", 3},
            {"fail", 4}, {"fail ", 5}, {"fail 01", 6}, {"fail x", 5}, {"fall", 2}, {"debt 0 1 5;pay 0 1 x", 19},
            {"member;member;ring 0x", 20}, {"member\n", 6}, {"net \u0660 1", 4}, {"fail :", 5}, {"fail /", 5}};
        for (Object[] text : texts) {
            DebtClearing house = Houses.with(2);
            Check.same("'" + text[0] + "'", Houses.run(house, (String) text[0]), MALFORMED);
            Check.same("error position of '" + text[0] + "'", house.errorPosition(), text[1]);
            Check.throwing("no command failed", NOT_FOUND, house::failedCommand);
        }
    }

    private static void promise44ErrorPositionIsKept() {
        DebtClearing house = new DebtClearing();
        Check.throwing("no text was malformed", NOT_FOUND, house::errorPosition);
        Houses.run(house, "member");
        Houses.run(house, "fail 0");
        Check.throwing("still no text was malformed", NOT_FOUND, house::errorPosition);
        Houses.run(house, "memb");
        Houses.run(house, "member");
        Houses.run(house, "fail 0");
        Check.same("kept", house.errorPosition(), 4);
        house.undo();
        house.save();
        house.restore();
        Check.same("no part of the state", house.errorPosition(), 4);
        Houses.run(house, "");
        Check.same("latest malformed text", house.errorPosition(), 0);
    }

    private static void promise45FailedCommand() {
        DebtClearing house = new DebtClearing();
        Houses.run(house, "member");
        Check.throwing("no command failed", NOT_FOUND, house::failedCommand);
        Check.same("fails", Houses.run(house, "member;debt 0 1 9;fail 0;fail 1"), FAILED);
        Check.same("first that failed", house.failedCommand(), 2);
        Houses.run(house, "member");
        Houses.run(house, "x");
        Check.same("kept", house.failedCommand(), 2);
        house.undo();
        house.save();
        house.restore();
        Check.same("no part of the state", house.failedCommand(), 2);
        Check.same("fails", Houses.run(house, "fail 9"), FAILED);
        Check.same("latest", house.failedCommand(), 0);
    }

    private static void promise45FailuresOfEachCommand() {
        String[] texts = {"debt 0 2 5", "debt 0 0 5", "debt 0 1 0", "debt 0 1 61", "pay 0 1 41", "pay 0 1 31",
            "pay 1 1 1", "pay 9 1 1", "net 0 0", "net 0 3", "ring 010", "ring 011", "ring 012", "pledge 0 0",
            "pledge 2 5", "pledge 0 99", "fail 1", "fail 8"};
        for (String text : texts) {
            DebtClearing house = Houses.with(2, Houses.debt(0, 1, 40), Houses.debt(1, 0, 1));
            house.pledge(0, 1);
            Check.same(text, Houses.run(house, "clear;" + text), FAILED);
            Check.same("failed command of " + text, house.failedCommand(), 1);
            Check.same("cleared debts are back", house.owed(1, 0), 1);
        }
    }

    private static void promise46WriteDebts() {
        DebtClearing house = Houses.with(8, Houses.debt(0, 4, 7), Houses.debt(0, 1, 30), Houses.debt(1, 0, 5));
        house.pay(0, 1, 18);
        house.addDebt(0, 1, 18);
        Check.same("length", house.writeDebts(0), 14);
        Check.same("the example", Houses.output(house, 14), "12c >1:30 >4:7");
        house.addDebt(7, 6, 1);
        house.addDebt(7, 0, 9);
        Check.same("length", house.writeDebts(7), 13);
        Check.same("first and last creditor", Houses.output(house, 13), "30c >0:9 >6:1");
    }

    private static void promise47OutputChar() {
        DebtClearing house = Houses.with(3, Houses.debt(0, 2, 99));
        Check.throwing("no output", IndexOutOfBoundsException.class, () -> house.outputChar(0));
        Check.same("length", house.writeDebts(0), 9);
        Check.same("output", Houses.output(house, 9), "30c >2:99");
        Check.throwing("behind", IndexOutOfBoundsException.class, () -> house.outputChar(9));
        Check.throwing("before", IndexOutOfBoundsException.class, () -> house.outputChar(-1));
        Check.throwing("far", IndexOutOfBoundsException.class, () -> house.outputChar(Integer.MAX_VALUE));
        Check.throwing("no member", IndexOutOfBoundsException.class, () -> house.writeDebts(3));
        Check.same("output stays", Houses.output(house, 9), "30c >2:99");
        house.declareDefault(0);
        house.undo();
        Check.same("no part of the state", Houses.output(house, 9), "30c >2:99");
        house.declareDefault(0);
        Check.same("in default", house.writeDebts(0), 3);
        Check.same("output", Houses.output(house, 3), "0c!");
        Check.throwing("replaced", IndexOutOfBoundsException.class, () -> house.outputChar(3));
    }
}
