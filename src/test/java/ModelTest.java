import java.util.Random;

/** Runs of random calls, each answer compared with that of the model. */
public final class ModelTest {
    private static final int RUNS = 1500;
    private static final int CALLS = 512;
    private static final int[] ODD = {-1, 0, 1, 29, 30, 31, 90, 91, 98, 99, 100, 499, 500, 501,
        Integer.MIN_VALUE, Integer.MAX_VALUE};

    private final Random random;
    private final DebtClearing house = new DebtClearing();
    private final Model model = new Model();
    private final String run;
    private int members = 0;
    private int calls = 0;

    private ModelTest(int seed) {
        random = new Random(seed);
        run = "run " + seed;
    }

    public static void main(String[] args) {
        for (int seed = 1; seed <= RUNS; seed++) {
            new ModelTest(seed).play();
        }
        Check.finish();
    }

    private void play() {
        int start = random.nextInt(9);
        for (int member = 0; member < start; member++) {
            both("addMember", house::addMember, model::addMember);
        }
        int most = 60 + random.nextInt(441);
        for (int member = 0; member < start; member++) {
            int index = member;
            both("setLimit " + index + " " + most, () -> house.setLimit(index, most), () -> model.setLimit(index, most));
        }
        while (calls < CALLS) {
            int kind = random.nextInt(100);
            if (kind < 2) {
                text();
            } else if (kind < 45) {
                change();
            } else if (kind < 50) {
                travel();
            } else if (kind < 75) {
                askMember();
            } else {
                ask();
            }
        }
    }

    private void both(String what, Check.Call got, Check.Call want) {
        calls++;
        Check.same(run + " call " + calls + " " + what, Check.outcome(got), Check.outcome(want));
        members = house.memberCount();
    }

    private int member() {
        if (random.nextInt(40) == 0) {
            return random.nextBoolean() ? ODD[random.nextInt(ODD.length)] : members;
        }
        return random.nextInt(Math.max(1, members));
    }

    private int amount() {
        return random.nextInt(25) == 0 ? ODD[random.nextInt(ODD.length)] : 1 + random.nextInt(random.nextInt(60) + 1);
    }

    private void change() {
        int a = member();
        int b = member();
        int c = member();
        int n = amount();
        String three = " " + a + " " + b + " " + n;
        int kind = random.nextInt(40);
        if (kind < 18) {
            both("addDebt" + three, () -> house.addDebt(a, b, n), () -> model.addDebt(a, b, n));
        } else if (kind < 23) {
            both("pay" + three, () -> house.pay(a, b, n), () -> model.pay(a, b, n));
        } else if (kind < 26) {
            both("netPair" + three, () -> house.netPair(a, b), () -> model.netPair(a, b));
        } else if (kind < 31) {
            both("netTriangle" + three + " " + c, () -> house.netTriangle(a, b, c), () -> model.netTriangle(a, b, c));
        } else if (kind < 32) {
            both("clearAll", house::clearAll, model::clearAll);
        } else if (kind < 34) {
            both("pledge" + three, () -> house.pledge(a, n), () -> model.pledge(a, n));
        } else if (kind < 36) {
            int limit = random.nextInt(3) == 0 ? n : 5 * n;
            both("setLimit " + a + " " + limit, () -> house.setLimit(a, limit), () -> model.setLimit(a, limit));
        } else if (kind < 37) {
            both("setHaircut " + n, () -> house.setHaircut(n), () -> model.setHaircut(n));
        } else if (kind < 39) {
            both("declareDefault" + three, () -> house.declareDefault(a), () -> model.declareDefault(a));
        } else {
            both("addMember", house::addMember, model::addMember);
        }
    }

    private void travel() {
        switch (random.nextInt(6)) {
            case 0 -> both("save", house::save, model::save);
            case 1 -> both("restore", house::restore, model::restore);
            default -> both("undo", house::undo, model::undo);
        }
    }

    private void askMember() {
        int a = member();
        int b = member();
        String two = " " + a + " " + b;
        switch (random.nextInt(18)) {
            case 0 -> both("coins" + two, () -> house.coins(a), () -> model.coins(a));
            case 1 -> both("collateral" + two, () -> house.collateral(a), () -> model.collateral(a));
            case 2 -> both("cover" + two, () -> house.cover(a), () -> model.cover(a));
            case 3 -> both("limit" + two, () -> house.limit(a), () -> model.limit(a));
            case 4 -> both("isInDefault" + two, () -> house.isInDefault(a), () -> model.isInDefault(a));
            case 5 -> both("owed" + two, () -> house.owed(a, b), () -> model.owed(a, b));
            case 6 -> both("debit" + two, () -> house.debit(a), () -> model.debit(a));
            case 7 -> both("credit" + two, () -> house.credit(a), () -> model.credit(a));
            case 8 -> both("position" + two, () -> house.position(a), () -> model.position(a));
            case 9 -> both("positionByAccount" + two, () -> house.positionByAccount(a), () -> model.position(a));
            case 10 -> both("reachCount" + two, () -> house.reachCount(a), () -> model.reachCount(a));
            case 11 -> both("byRounds" + two, () -> house.reachCountByRounds(a), () -> model.reachCount(a));
            case 12 -> both("reaches" + two, () -> house.reaches(a, b), () -> model.reaches(a, b));
            case 13 -> both("loss" + two, () -> house.lossIfDefault(a), () -> model.lossIfDefault(a));
            case 14, 15 -> both("share" + two, () -> house.shareIfDefault(a, b), () -> model.shareIfDefault(a, b));
            case 16 -> both("rank" + two, () -> house.memberByPosition(a), () -> model.memberByPosition(a));
            default -> write(a);
        }
    }

    private void write(int member) {
        both("writeDebts " + member, () -> house.writeDebts(member), () -> model.writeDebts(member));
        for (int tries = 0; tries < 3; tries++) {
            int index = random.nextInt(14) - 1;
            both("outputChar " + index, () -> house.outputChar(index), () -> model.outputChar(index));
        }
    }

    private void ask() {
        switch (random.nextInt(18)) {
            case 0 -> both("memberCount", house::memberCount, model::memberCount);
            case 1 -> both("haircut", house::haircut, model::haircut);
            case 2 -> both("debtCount", house::debtCount, model::debtCount);
            case 3 -> both("totalDebt", house::totalDebt, model::totalDebt);
            case 4 -> both("largestDebtor", house::largestDebtor, () -> model.largest(0));
            case 5 -> both("largestCreditor", house::largestCreditor, () -> model.largest(1));
            case 6 -> both("triangles", house::triangles, model::triangles);
            case 7 -> both("trianglesByProduct", house::trianglesByProduct, model::triangles);
            case 8 -> both("debtsAfterClearing", house::debtsAfterClearing, model::debtsAfterClearing);
            case 9 -> both("nettedAmount", house::nettedAmount, model::nettedAmount);
            case 10 -> both("lostAmount", house::lostAmount, model::lostAmount);
            case 11 -> both("meanPosition", house::meanPosition, model::meanPosition);
            case 12 -> both("debtShare", house::debtShare, model::debtShare);
            case 13 -> both("isConsistent", house::isConsistent, () -> true);
            case 14 -> both("errorPosition", house::errorPosition, model::errorPosition);
            case 15 -> both("failedCommand", house::failedCommand, model::failedCommand);
            default -> both("undoCount", house::undoCount, model::undoCount);
        }
    }

    private void text() {
        StringBuilder text = new StringBuilder(command());
        int more = random.nextInt(5);
        for (int command = 0; command < more; command++) {
            text.append(';').append(command());
        }
        spoil(text);
        for (int index = 0; index < text.length(); index++) {
            char character = text.charAt(index);
            both("feed " + character, () -> house.feed(character), () -> model.feed(character));
        }
        both("runCommands " + text, house::runCommands, model::runCommands);
    }

    private String command() {
        int a = random.nextInt(Math.max(1, members));
        int b = random.nextInt(Math.max(1, members));
        int c = random.nextInt(10);
        int n = random.nextInt(random.nextInt(99) + 1);
        return switch (random.nextInt(12)) {
            case 0, 1 -> "member";
            case 2, 3, 4 -> "debt " + a + " " + b + " " + n;
            case 5, 6 -> "pay " + a + " " + b + " " + n;
            case 7 -> "net " + a + " " + b;
            case 8 -> "ring " + a + b + c;
            case 9 -> "clear";
            case 10 -> "pledge " + a + " " + n;
            default -> "fail " + a;
        };
    }

    private void spoil(StringBuilder text) {
        String characters = "mdpnrcf ;0159aylex\u0660\uffff";
        int index = random.nextInt(text.length());
        char character = characters.charAt(random.nextInt(characters.length()));
        switch (random.nextInt(12)) {
            case 0 -> text.setCharAt(index, character);
            case 1 -> text.insert(index, character);
            case 2 -> text.deleteCharAt(index);
            case 3 -> text.setLength(index);
            case 4 -> text.append(character);
            default -> { }
        }
    }
}
