import java.util.NoSuchElementException;
import java.util.function.Function;
import java.util.function.Supplier;

/**
 * Promises 42 to 51 and the terms "Commands" and "Undo", each sentence with a bound or an exception to a rule by
 * itself.
 */
public final class TextBoundsTest {
    private static final Class<IndexOutOfBoundsException> NO_INDEX = IndexOutOfBoundsException.class;
    private static final Class<IllegalArgumentException> MALFORMED = IllegalArgumentException.class;
    private static final Class<IllegalStateException> BAD_STATE = IllegalStateException.class;
    private static final Class<UnsupportedOperationException> FAILED = UnsupportedOperationException.class;
    private static final Class<NoSuchElementException> NOT_FOUND = NoSuchElementException.class;
    private static final String[] WELL_FORMED = {"member", "debt 0 1 5", "debt 0 1 99", "pay 0 1 5", "pay 2 3 10",
        "net 0 1", "ring 012", "clear", "pledge 0 5", "pledge 1 42", "fail 0"};

    public static void main(String[] args) {
        promise42SixtyCharacters();
        promise42AnyCharacter();
        promise43EmptyText();
        promise43OneOrMoreCommands();
        promise43LongestTexts();
        promise43SingleDigits();
        promise43OneOrTwoDigits();
        promise43EmptyAfterwards();
        promise43StateBeforeTheCall();
        promise43EachLimitOfACommand();
        promise43MalformedGoesFirst();
        promise44EveryCharacterAtEveryPlace();
        promise44EveryBeginning();
        promise44NoText();
        promise45NoCommand();
        promise45EachIndex();
        promise46Members();
        promise46ReplacesTheOutput();
        promise46LongestOutput();
        promise47EmptyOutput();
        promise47Range();
        promise48Range();
        promise49RecordedIfNothingChanges();
        promise49NotRecorded();
        promise49EightLatest();
        promise49ByTexts();
        promise49NotPartOfTheState();
        promise50Replaces();
        promise51NothingSaved();
        promise51Kept();
        Check.finish();
    }

    private static DebtClearing fed(int characters) {
        DebtClearing house = Houses.with(1);
        for (int index = 0; index < characters; index++) {
            house.feed(';');
        }
        return house;
    }

    private static void promise42SixtyCharacters() {
        Twins.answered("the first character", 1, () -> fed(0), house -> house.feed('a'));
        Twins.answered("the 60th character", 60, () -> fed(59), house -> house.feed('a'));
        Twins.refused("a 61st character", BAD_STATE, () -> fed(60), house -> house.feed('a'));
        DebtClearing house = fed(0);
        Houses.feed(house, "member;clear;member;clear;member;clear;member;clear;member;c");
        Check.throwing("refused", BAD_STATE, () -> house.feed('l'));
        Check.throwing("the text without the refused character", MALFORMED, house::runCommands);
        Check.same("its error position", house.errorPosition(), 60);
    }

    private static void promise42AnyCharacter() {
        for (int code = 0; code <= Character.MAX_VALUE; code++) {
            DebtClearing house = new DebtClearing();
            char character = (char) code;
            if (house.feed(character) != 1) {
                Check.same("feed of " + code, 0, 1);
            }
            boolean isBeginning = "mdpnrcf".indexOf(character) >= 0;
            Object outcome = Check.outcome(house::runCommands);
            if (outcome != MALFORMED || house.errorPosition() != (isBeginning ? 1 : 0)) {
                Check.same("text of character " + code, outcome, MALFORMED);
                Check.same("error position with character " + code, house.errorPosition(), isBeginning ? 1 : 0);
            }
        }
    }

    private static void promise43EmptyText() {
        DebtClearing house = Twins.full();
        String before = Houses.state(house);
        Check.throwing("no text", MALFORMED, house::runCommands);
        Check.same("error position of no text", house.errorPosition(), 0);
        Check.same("state after no text", Houses.state(house), before);
        Check.same("not recorded", house.undoCount(), 8);
    }

    private static void promise43OneOrMoreCommands() {
        for (String command : WELL_FORMED) {
            for (String other : WELL_FORMED) {
                runsOrFails(command + ";" + other);
                malformed(command + ";;" + other, command.length() + 1);
                malformed(command + " ;" + other, command.length());
                malformed(command + "; " + other, command.length() + 1);
                malformed(command + "," + other, command.length());
            }
            runsOrFails(command);
            malformed(command + ";", command.length() + 1);
            malformed(";" + command, 0);
            malformed(" " + command, 0);
            malformed(command + " ", command.length());
        }
    }

    private static void runsOrFails(String text) {
        Object outcome = Houses.run(Twins.full(), text);
        boolean isWellFormed = outcome instanceof Integer || outcome == FAILED;
        Check.same("'" + text + "' is well-formed", isWellFormed, true);
    }

    private static void malformed(String text, int position) {
        DebtClearing house = Twins.full();
        Check.same("'" + text + "'", Houses.run(house, text), MALFORMED);
        Check.same("error position of '" + text + "'", house.errorPosition(), position);
    }

    private static void promise43LongestTexts() {
        String longest = "debt 0 1 9;debt 0 2 9;debt 1 2 9;debt 2 0 9;debt 2 1 9;clear";
        Check.same("its length", longest.length(), 60);
        DebtClearing house = Houses.with(3);
        Check.same("a text of 60 characters", Houses.run(house, longest), 6);
        Check.same("one call", house.undoCount(), 4);
        Check.same("one debt is left of five", house.debtCount(), 1);
        String twoDigits = "clear;clear;clear;clear;clear;clear;clear;clear;debt 0 1 17";
        Check.same("a text that ends in two digits", Houses.run(house, twoDigits), 9);
        Check.same("length", twoDigits.length(), 59);
        Check.same("owed", house.owed(0, 1), 26);
        String cutAmount = "member;clear;clear;clear;clear;clear;clear;clear;debt 0 1 29";
        Check.same("length", cutAmount.length(), 60);
        Check.same("60 characters with two digits at the end", Houses.run(house, cutAmount), 9);
        Check.same("owed", house.owed(0, 1), 55);
    }

    private static void promise43SingleDigits() {
        for (String form : new String[] {"debt # 1 5", "debt 1 # 5", "pay # 1 5", "pay 1 # 5", "net # 1", "net 1 #",
            "pledge # 5", "fail #"}) {
            int place = form.indexOf('#');
            for (char digit = '0'; digit <= '9'; digit++) {
                runsOrFails(form.replace('#', digit));
                malformed(form.replace("#", "1" + digit), place + 1);
            }
            malformed(form.replace("#", "-1"), place);
            malformed(form.replace("#", ""), place);
        }
        for (int ring = 0; ring < 1000; ring++) {
            runsOrFails("ring " + ring / 100 + ring / 10 % 10 + ring % 10);
        }
        malformed("ring 12", 7);
        malformed("ring 1234", 8);
        DebtClearing house = Twins.full();
        Check.same("member 7", Houses.run(house, "pledge 7 1"), 1);
        Check.same("no member 8", Houses.run(house, "pledge 8 1"), FAILED);
        Check.same("no member 9", Houses.run(house, "pledge 9 1"), FAILED);
    }

    private static void promise43OneOrTwoDigits() {
        for (String keyword : new String[] {"debt 0 1 ", "pay 0 1 ", "pledge 0 "}) {
            malformed(keyword, keyword.length());
            malformed(keyword + "100", keyword.length() + 2);
            malformed(keyword + "001", keyword.length() + 2);
            for (int amount = 0; amount < 100; amount++) {
                amount(keyword + amount, amount);
                if (amount < 10) {
                    amount(keyword + "0" + amount, amount);
                }
            }
        }
    }

    /** Member 0 owes 99 and has 120 coins, so that any amount is just right but 0. */
    private static void amount(String text, int amount) {
        DebtClearing house = Houses.with(4, Houses.debt(1, 0, 30), Houses.debt(2, 0, 30), Houses.debt(3, 0, 30));
        for (int debtor = 1; debtor < 4; debtor++) {
            house.pay(debtor, 0, 30);
        }
        house.addDebt(0, 1, 99);
        house.setLimit(0, 500);
        Check.same(text, Houses.run(house, text), amount == 0 ? FAILED : (Object) 1);
        int moved = Math.abs(house.owed(0, 1) - 99) + house.collateral(0);
        Check.same("amount of " + text, moved, amount);
    }

    private static void promise43EmptyAfterwards() {
        String[] texts = {"clear", "", ";", "clear;clear", "fail 0", "clear;fail 9", "clear;x"};
        for (String text : texts) {
            DebtClearing house = Houses.with(2);
            Houses.run(house, text);
            Check.same("buffer after '" + text + "'", house.feed('c'), 1);
            Check.same("text after '" + text + "'", Houses.run(house, "lear"), 1);
        }
        DebtClearing full = fed(60);
        Check.outcome(full::runCommands);
        Check.same("buffer after a full text", full.feed('c'), 1);
    }

    /** A failure takes back the commands before it, whatever they changed. */
    private static void promise43StateBeforeTheCall() {
        String[] changes = {"member", "debt 0 2 5", "pay 0 1 5", "net 0 1", "ring 012", "clear", "pledge 2 9",
            "fail 2"};
        for (String change : changes) {
            DebtClearing changed = changing();
            String before = Houses.state(changed);
            Check.same(change, Houses.run(changed, change), 1);
            Check.same(change + " changes something", Houses.state(changed).equals(before), false);
            DebtClearing house = changing();
            house.save();
            house.writeDebts(0);
            Check.same(change + ", then a failure", Houses.run(house, change + ";fail 9"), FAILED);
            Check.same("state after " + change, Houses.state(house), before);
            Check.same("undos after " + change, house.undoCount(), changing().undoCount());
            Check.same("output after " + change, Houses.output(house, 3), "30c");
            Check.same("failed command after " + change, house.failedCommand(), 1);
            Check.same("consistent after " + change, house.isConsistent(), true);
            house.undo();
            DebtClearing other = changing();
            other.undo();
            Check.same("undo after " + change, Houses.state(house), Houses.state(other));
        }
    }

    private static DebtClearing changing() {
        return Houses.with(4, Houses.debt(0, 1, 40), Houses.debt(1, 0, 4), Houses.debt(1, 2, 8),
                Houses.debt(2, 0, 31), Houses.debt(3, 0, 1));
    }

    /** The commands keep to the bounds of the calls. */
    private static void promise43EachLimitOfACommand() {
        String[][] pairs = {
            {"debt 3 0 98", "debt 3 0 99"}, {"pay 0 1 30", "pay 0 1 31"}, {"pay 1 0 4", "pay 1 0 5"},
            {"pledge 0 99", "pledge 0 99;pledge 0 1"}, {"pledge 0 98;pledge 0 1", "pledge 0 98;pledge 0 2"},
            {"fail 2", "pledge 2 2;fail 2"}, {"fail 0", "fail 0;fail 0"}, {"fail 0;pledge 0 1", "fail 0;debt 0 1 1"},
            {"fail 0;debt 1 0 1", "fail 0;pay 0 1 1"}, {"net 0 3", "net 0 4"}, {"net 3 2", "net 2 2"},
            {"ring 012", "ring 021"}, {"ring 120", "ring 012;ring 012"},
            {"member;member;member;member", "member;member;member;member;member"},
            {"member;net 4 0", "net 4 0;member"}};
        for (String[] pair : pairs) {
            Check.same(pair[0], Houses.run(changing(), pair[0]) instanceof Integer, true);
            DebtClearing house = changing();
            String before = Houses.state(house);
            Check.same(pair[1], Houses.run(house, pair[1]), FAILED);
            Check.same("state after " + pair[1], Houses.state(house), before);
        }
    }

    private static void promise43MalformedGoesFirst() {
        DebtClearing house = Houses.with(2);
        Check.same("failing, then malformed", Houses.run(house, "fail 0;x"), MALFORMED);
        Check.same("error position", house.errorPosition(), 7);
        Check.throwing("no command failed", NOT_FOUND, house::failedCommand);
        Check.same("failing, then too short", Houses.run(house, "fail 0;"), MALFORMED);
        Check.same("error position", house.errorPosition(), 7);
    }

    private static void promise44EveryCharacterAtEveryPlace() {
        for (String text : WELL_FORMED) {
            for (int place = 0; place < text.length(); place++) {
                for (char character = 0; character < 256; character++) {
                    char[] characters = text.toCharArray();
                    characters[place] = character;
                    sameAsModel(new String(characters));
                    if (character < 128) {
                        sameAsModel("clear;" + text.substring(0, place) + character + text.substring(place));
                    }
                }
            }
        }
    }

    private static void sameAsModel(String text) {
        DebtClearing house = new DebtClearing();
        Model model = new Model();
        for (int index = 0; index < text.length(); index++) {
            house.feed(text.charAt(index));
            model.feed(text.charAt(index));
        }
        Check.same("'" + text + "'", Check.outcome(house::runCommands), Check.outcome(model::runCommands));
        Check.same("error position of '" + text + "'", Check.outcome(house::errorPosition),
                Check.outcome(model::errorPosition));
    }

    private static void promise44EveryBeginning() {
        for (String text : WELL_FORMED) {
            for (int length = 0; length < text.length(); length++) {
                String beginning = text.substring(0, length);
                boolean isWhole = beginning.equals("debt 0 1 9") || beginning.equals("pay 2 3 1")
                        || beginning.equals("pledge 1 4");
                if (isWhole) {
                    runsOrFails(beginning);
                } else {
                    malformed(beginning, length);
                    malformed("net 0 1;" + beginning, 8 + length);
                }
            }
        }
    }

    private static void promise44NoText() {
        Twins.refused("errorPosition at first", NOT_FOUND, DebtClearing::new, DebtClearing::errorPosition);
        Twins.answered("errorPosition", 3, Twins::busy, DebtClearing::errorPosition);
        Supplier<DebtClearing> onlyFailed = () -> {
            DebtClearing house = new DebtClearing();
            Houses.run(house, "fail 0");
            return house;
        };
        Twins.refused("errorPosition after a failure", NOT_FOUND, onlyFailed, DebtClearing::errorPosition);
        Supplier<DebtClearing> first = () -> {
            DebtClearing house = onlyFailed.get();
            Houses.run(house, "x");
            return house;
        };
        Twins.answered("error position 0", 0, first, DebtClearing::errorPosition);
    }

    private static void promise45NoCommand() {
        Twins.refused("failedCommand at first", NOT_FOUND, DebtClearing::new, DebtClearing::failedCommand);
        Twins.answered("failedCommand", 1, Twins::busy, DebtClearing::failedCommand);
        Supplier<DebtClearing> onlyMalformed = () -> {
            DebtClearing house = new DebtClearing();
            Houses.run(house, "x");
            return house;
        };
        Twins.refused("failedCommand after a malformed text", NOT_FOUND, onlyMalformed, DebtClearing::failedCommand);
    }

    private static void promise45EachIndex() {
        String clears = "";
        for (int index = 0; index < 10; index++) {
            DebtClearing house = Houses.with(1);
            String text = clears + (index < 9 ? "fail 0" : "net 00");
            Object outcome = Houses.run(house, text);
            if (index < 9) {
                Check.same(text, outcome, FAILED);
                Check.same("failed command of " + text, house.failedCommand(), index);
            } else {
                Check.same(text, outcome, MALFORMED);
            }
            clears += "clear;";
        }
        DebtClearing house = new DebtClearing();
        String nine = "member;member;member;member;member;member;member;member";
        Check.same("eight members", Houses.run(house, nine), 8);
        house.undo();
        Check.same("seven members and the failure", Houses.run(house, nine.substring(7) + ";fail 6"), FAILED);
        Check.same("behind seven", house.failedCommand(), 7);
        Check.same("no members again", house.memberCount(), 0);
    }

    private static void promise46Members() {
        for (int index : new int[] {-1, 4, 8, Integer.MIN_VALUE, Integer.MAX_VALUE}) {
            Twins.refused("writeDebts of " + index, NO_INDEX, Twins::busy, house -> house.writeDebts(index));
        }
        Twins.refused("writeDebts, no members", NO_INDEX, DebtClearing::new, house -> house.writeDebts(0));
        Twins.refused("writeDebts, no ninth member", NO_INDEX, Twins::full, house -> house.writeDebts(8));
        String[] wanted = {"60c >1:40", "30c >0:6 >2:20", "30c >0:9", "0c!"};
        for (int member = 0; member < 4; member++) {
            DebtClearing house = Twins.busy();
            Check.same("length", house.writeDebts(member), wanted[member].length());
            Check.same("output of " + member, Houses.output(house, wanted[member].length()), wanted[member]);
        }
        DebtClearing full = Twins.full();
        Check.same("length of the last", full.writeDebts(7), 9);
        Check.same("output of the last", Houses.output(full, 9), "30c >0:38");
        full.pay(7, 0, 8);
        full.pay(6, 7, 30);
        Check.same("a debt that is left", full.writeDebts(6), 7);
        Check.same("its output", Houses.output(full, 7), "0c >7:7");
    }

    private static void promise46ReplacesTheOutput() {
        DebtClearing house = Twins.busy();
        house.writeDebts(1);
        Check.same("a shorter output", house.writeDebts(3), 3);
        Check.same("its text", Houses.output(house, 3), "0c!");
        Check.throwing("nothing is left behind it", NO_INDEX, () -> house.outputChar(3));
        Check.same("a longer output", house.writeDebts(1), 14);
        Check.same("its text", Houses.output(house, 14), "30c >0:6 >2:20");
    }

    private static void promise46LongestOutput() {
        DebtClearing house = Houses.with(8);
        house.setLimit(3, 500);
        for (int creditor = 0; creditor < 8; creditor++) {
            if (creditor != 3) {
                house.addDebt(3, creditor, 71);
            }
        }
        String want = "30c >0:71 >1:71 >2:71 >4:71 >5:71 >6:71 >7:71";
        Check.same("length with seven debts", house.writeDebts(3), want.length());
        Check.same("all seven", Houses.output(house, want.length()), want);
        DebtClearing three = Houses.with(2);
        three.setLimit(0, 500);
        for (int times = 0; times < 5; times++) {
            three.addDebt(0, 1, 99);
        }
        Check.same("length with three digits", three.writeDebts(0), 10);
        Check.same("three digits", Houses.output(three, 10), "30c >1:495");
    }

    private static void promise47EmptyOutput() {
        for (int index : new int[] {0, -1, 1, Integer.MIN_VALUE, Integer.MAX_VALUE}) {
            Twins.refused("character of no output", NO_INDEX, Twins::full, house -> house.outputChar(index));
        }
    }

    private static void promise47Range() {
        for (int index : new int[] {-1, 9, 10, Integer.MIN_VALUE, Integer.MAX_VALUE}) {
            Twins.refused("character " + index, NO_INDEX, Twins::busy, house -> house.outputChar(index));
        }
        Twins.onlyAnswers("the first character", '6', Twins::busy, house -> house.outputChar(0));
        Twins.onlyAnswers("the last character", '0', Twins::busy, house -> house.outputChar(8));
        Twins.onlyAnswers("one in the middle", '>', Twins::busy, house -> house.outputChar(4));
    }

    private static void promise48Range() {
        Twins.onlyAnswers("undoCount of a new object", 0, DebtClearing::new, DebtClearing::undoCount);
        for (int calls = 1; calls <= 9; calls++) {
            int members = calls;
            Supplier<DebtClearing> maker = () -> Houses.with(Math.min(members, 8));
            Twins.onlyAnswers("undoCount after " + calls, Math.min(calls, 8), maker, DebtClearing::undoCount);
        }
        DebtClearing house = Houses.with(8);
        house.clearAll();
        Check.same("undoCount after nine", house.undoCount(), 8);
    }

    /** Only these can return normally without a change. */
    private static void promise49RecordedIfNothingChanges() {
        unchanging("netPair of no debts", house -> house.netPair(0, 1));
        unchanging("netPair of one debt", house -> house.netPair(2, 0));
        unchanging("clearAll of cleared debts", DebtClearing::clearAll);
        unchanging("setLimit to the same", house -> house.setLimit(0, 99));
        unchanging("setHaircut to the same", house -> house.setHaircut(20));
        unchanging("runCommands of clear", house -> Houses.run(house, "clear"));
        unchanging("runCommands of net", house -> Houses.run(house, "net 1 2;net 2 0"));
    }

    private static void unchanging(String what, Function<DebtClearing, Object> call) {
        DebtClearing house = Houses.with(3, Houses.debt(2, 0, 5));
        String before = Houses.state(house);
        call.apply(house);
        Check.same(what + " changes nothing", Houses.state(house), before);
        Check.same(what + " is recorded", house.undoCount(), 5);
        Check.same("undo of " + what, house.undo(), 4);
        Check.same("state after undo of " + what, Houses.state(house), before);
        house.undo();
        Check.same("the call before", house.debtCount(), 0);
    }

    private static void promise49NotRecorded() {
        DebtClearing house = Houses.with(3, Houses.debt(2, 0, 5));
        house.save();
        house.feed('c');
        house.writeDebts(2);
        house.outputChar(0);
        Check.outcome(house::runCommands);
        Houses.run(house, "fail 0");
        Check.outcome(() -> house.addDebt(0, 0, 5));
        Check.outcome(() -> house.pay(2, 0, 6));
        Check.outcome(() -> house.netTriangle(0, 1, 2));
        Check.outcome(() -> house.pledge(3, 1));
        Check.outcome(() -> house.declareDefault(2));
        Check.same("none of these is recorded", house.undoCount(), 4);
        Check.same("undo of the debt", house.undo(), 3);
        Check.same("undo is not recorded", house.undoCount(), 3);
        Check.same("debts", house.debtCount(), 0);
    }

    private static void promise49EightLatest() {
        for (int calls = 0; calls <= 20; calls++) {
            DebtClearing house = new DebtClearing();
            for (int call = 0; call < calls; call++) {
                house.setHaircut(call);
            }
            int back = Math.min(calls, 8);
            for (int undone = 1; undone <= back; undone++) {
                Check.same("undo " + undone + " of " + calls, house.undo(), back - undone);
                int want = calls - undone - 1;
                Check.same("haircut after undo " + undone + " of " + calls, house.haircut(), want < 0 ? 20 : want);
            }
            int left = calls - back - 1;
            Check.throwing("one undo more after " + calls, BAD_STATE, house::undo);
            Check.same("state after it", house.haircut(), left < 0 ? 20 : left);
            Check.same("undoCount after it", house.undoCount(), 0);
        }
        Twins.refused("undo of a new object", BAD_STATE, DebtClearing::new, DebtClearing::undo);
    }

    /** A text is one call, whatever its number of commands. */
    private static void promise49ByTexts() {
        DebtClearing house = new DebtClearing();
        for (int text = 0; text < 9; text++) {
            Check.same("text " + text, Houses.run(house, text == 0 ? "member;member" : "pledge 0 1;pledge 1 2"), 2);
        }
        Check.same("eight texts", house.undoCount(), 8);
        for (int left = 7; left >= 0; left--) {
            Check.same("undo of a text", house.undo(), left);
            Check.same("both commands are undone", house.collateral(0) * 2, house.collateral(1));
            Check.same("pledges left", house.collateral(0), left);
        }
        Check.throwing("the first text is too long ago", BAD_STATE, house::undo);
        Check.same("members", house.memberCount(), 2);
    }

    private static void promise49NotPartOfTheState() {
        DebtClearing house = Houses.with(2, Houses.debt(0, 1, 31));
        house.save();
        house.declareDefault(0);
        house.writeDebts(0);
        Houses.run(house, "xy");
        Houses.run(house, "clear;clear;fail 0");
        Houses.feed(house, "cle");
        house.undo();
        unmoved("undo", house);
        house.declareDefault(0);
        house.restore();
        unmoved("restore", house);
        house.save();
        unmoved("save", house);
        Check.same("the text goes on", Houses.run(house, "ar"), 1);
    }

    private static void unmoved(String what, DebtClearing house) {
        Check.same("output after " + what, Houses.output(house, 3), "0c!");
        Check.throwing("end of the output after " + what, NO_INDEX, () -> house.outputChar(3));
        Check.same("error position after " + what, house.errorPosition(), 0);
        Check.same("failed command after " + what, house.failedCommand(), 2);
        Check.same("debtor after " + what, house.isInDefault(0), false);
    }

    private static void promise50Replaces() {
        Twins.answered("save of nothing", 0, DebtClearing::new, DebtClearing::save);
        Twins.answered("save of all", 8, Twins::full, DebtClearing::save);
        DebtClearing house = Twins.busy();
        house.save();
        house.clearAll();
        Check.same("the later state", house.restore(), 4);
        Check.same("its default", house.isInDefault(3), true);
        Check.same("its limit", house.limit(0), 40);
        Check.same("its loss", house.lostAmount(), 20);
        Check.same("its account", house.positionByAccount(0), -25);
        Check.same("its debts", house.debtCount(), 4);
        DebtClearing shrunk = Houses.with(8);
        shrunk.save();
        for (int times = 0; times < 8; times++) {
            shrunk.undo();
        }
        Check.same("a smaller state", shrunk.save(), 0);
        shrunk.addMember();
        Check.same("replaces a larger one", shrunk.restore(), 0);
        Check.same("no members", shrunk.memberCount(), 0);
    }

    private static void promise51NothingSaved() {
        Twins.refused("restore of nothing saved", BAD_STATE, Twins::full, DebtClearing::restore);
        Twins.refused("restore of a new object", BAD_STATE, DebtClearing::new, DebtClearing::restore);
        DebtClearing house = new DebtClearing();
        house.save();
        house.addMember();
        Check.same("a saved state without members", house.restore(), 0);
        Check.same("undo after restore", Check.outcome(house::undo), BAD_STATE);
    }

    private static void promise51Kept() {
        DebtClearing house = Twins.busy();
        DebtClearing other = Twins.busy();
        other.restore();
        String saved = Houses.state(other);
        for (int times = 0; times < 3; times++) {
            Check.same("restore", house.restore(), 4);
            Check.same("restored state", Houses.state(house), saved);
            Check.same("no undos", house.undoCount(), 0);
            house.addDebt(0, 3, 9);
            house.pledge(0, 9);
            house.setHaircut(times);
            house.clearAll();
            Check.same("undos after restore", house.undoCount(), 4);
        }
        house.undo();
        house.undo();
        house.undo();
        house.undo();
        Check.same("undone to the restored state", Houses.state(house), saved);
        Check.throwing("and not behind it", BAD_STATE, house::undo);
    }
}
