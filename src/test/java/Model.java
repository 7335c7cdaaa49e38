import java.util.ArrayDeque;
import java.util.ArrayList;
import java.util.Comparator;
import java.util.Deque;
import java.util.List;
import java.util.Map;
import java.util.NoSuchElementException;
import java.util.TreeMap;
import java.util.function.Supplier;
import java.util.regex.Matcher;
import java.util.regex.Pattern;

/** The document once more, in the plainest form and by other means than the class, to compare answers with. */
final class Model {
    private static final String COMMAND = "(?:member|debt \\d \\d \\d\\d?|pay \\d \\d \\d\\d?|net \\d \\d|ring \\d\\d\\d"
            + "|clear|pledge \\d \\d\\d?|fail \\d)";
    private static final Pattern TEXT = Pattern.compile(COMMAND + "(?:;" + COMMAND + ")*");

    private State state = new State();
    private State saved = null;
    private final Deque<State> history = new ArrayDeque<>();
    private String input = "";
    private String output = "";
    private Integer errorPosition = null;
    private Integer failedCommand = null;

    private static final class State {
        private final List<Member> members = new ArrayList<>();
        private final TreeMap<List<Integer>, Integer> debts =
                new TreeMap<>(Comparator.<List<Integer>>comparingInt(pair -> pair.get(0))
                        .thenComparingInt(pair -> pair.get(1)));
        private int haircut = 20;
        private int netted = 0;
        private int lost = 0;

        State copy() {
            State other = new State();
            for (Member member : members) {
                other.members.add(member.copy());
            }
            other.debts.putAll(debts);
            other.haircut = haircut;
            other.netted = netted;
            other.lost = lost;
            return other;
        }
    }

    private static final class Member {
        private int coins = 30;
        private int collateral = 0;
        private int limit = 99;
        private boolean isInDefault = false;

        Member copy() {
            Member other = new Member();
            other.coins = coins;
            other.collateral = collateral;
            other.limit = limit;
            other.isInDefault = isInDefault;
            return other;
        }
    }

    private static void demand(boolean holds, Supplier<RuntimeException> exception) {
        if (!holds) {
            throw exception.get();
        }
    }

    private Member member(int index) {
        demand(index >= 0 && index < state.members.size(), IndexOutOfBoundsException::new);
        return state.members.get(index);
    }

    private void pair(int first, int second) {
        member(first);
        member(second);
        demand(first != second, IllegalArgumentException::new);
    }

    private static void range(int number, int least, int most) {
        demand(number >= least && number <= most, IllegalArgumentException::new);
    }

    private int debt(int debtor, int creditor) {
        return state.debts.getOrDefault(List.of(debtor, creditor), 0);
    }

    private void setDebt(int debtor, int creditor, int amount) {
        state.debts.remove(List.of(debtor, creditor));
        if (amount > 0) {
            state.debts.put(List.of(debtor, creditor), amount);
        }
    }

    private Object recorded(Supplier<Object> change) {
        State before = state.copy();
        Object answer = change.get();
        history.push(before);
        if (history.size() > 8) {
            history.removeLast();
        }
        return answer;
    }

    Object addMember() {
        return recorded(this::doAddMember);
    }

    private Object doAddMember() {
        demand(state.members.size() < 8, IllegalStateException::new);
        state.members.add(new Member());
        return state.members.size() - 1;
    }

    Object addDebt(int debtor, int creditor, int amount) {
        return recorded(() -> doAddDebt(debtor, creditor, amount));
    }

    private Object doAddDebt(int debtor, int creditor, int amount) {
        pair(debtor, creditor);
        range(amount, 1, 99);
        demand(!member(debtor).isInDefault, IllegalStateException::new);
        demand((int) debit(debtor) + amount <= member(debtor).limit, UnsupportedOperationException::new);
        setDebt(debtor, creditor, debt(debtor, creditor) + amount);
        return debt(debtor, creditor);
    }

    Object pay(int debtor, int creditor, int amount) {
        return recorded(() -> doPay(debtor, creditor, amount));
    }

    private Object doPay(int debtor, int creditor, int amount) {
        pair(debtor, creditor);
        range(amount, 1, 99);
        demand(debt(debtor, creditor) >= amount, IllegalStateException::new);
        demand(member(debtor).coins >= amount, UnsupportedOperationException::new);
        member(debtor).coins -= amount;
        member(creditor).coins += amount;
        setDebt(debtor, creditor, debt(debtor, creditor) - amount);
        return debt(debtor, creditor);
    }

    Object netPair(int first, int second) {
        return recorded(() -> doNetPair(first, second));
    }

    private Object doNetPair(int first, int second) {
        pair(first, second);
        return decrease(List.of(List.of(first, second), List.of(second, first)));
    }

    Object netTriangle(int first, int second, int third) {
        return recorded(() -> doNetTriangle(first, second, third));
    }

    private Object doNetTriangle(int first, int second, int third) {
        member(first);
        member(second);
        member(third);
        demand(List.of(first, second, third).stream().distinct().count() == 3, IllegalArgumentException::new);
        List<List<Integer>> pairs = List.of(List.of(first, second), List.of(second, third), List.of(third, first));
        demand(state.debts.keySet().containsAll(pairs), IllegalStateException::new);
        return decrease(pairs);
    }

    private int decrease(List<List<Integer>> pairs) {
        int by = pairs.stream().mapToInt(pair -> debt(pair.get(0), pair.get(1))).min().getAsInt();
        for (List<Integer> pair : pairs) {
            setDebt(pair.get(0), pair.get(1), debt(pair.get(0), pair.get(1)) - by);
            state.netted += by;
        }
        return by;
    }

    Object clearAll() {
        return recorded(this::doClearAll);
    }

    private Object doClearAll() {
        Map<List<Integer>, Integer> cleared = cleared();
        state.debts.clear();
        state.debts.putAll(cleared);
        return cleared.size();
    }

    private Map<List<Integer>, Integer> cleared() {
        List<Integer> open = new ArrayList<>();
        for (int member = 0; member < state.members.size(); member++) {
            open.add((Integer) position(member));
        }
        Map<List<Integer>, Integer> made = new TreeMap<>(state.debts.comparator());
        while (open.stream().anyMatch(position -> position != 0)) {
            int least = open.indexOf(open.stream().min(Comparator.naturalOrder()).get());
            int greatest = open.indexOf(open.stream().max(Comparator.naturalOrder()).get());
            int amount = Math.min(Math.abs(open.get(least)), Math.abs(open.get(greatest)));
            made.put(List.of(least, greatest), amount);
            open.set(least, open.get(least) + amount);
            open.set(greatest, open.get(greatest) - amount);
        }
        return made;
    }

    Object pledge(int member, int amount) {
        return recorded(() -> doPledge(member, amount));
    }

    private Object doPledge(int member, int amount) {
        member(member);
        range(amount, 1, 99);
        demand(member(member).collateral + amount <= 99, IllegalStateException::new);
        member(member).collateral += amount;
        return member(member).collateral;
    }

    Object setLimit(int member, int limit) {
        return recorded(() -> {
            int previous = member(member).limit;
            range(limit, 0, 500);
            demand((int) debit(member) <= limit, IllegalStateException::new);
            member(member).limit = limit;
            return previous;
        });
    }

    Object setHaircut(int percent) {
        return recorded(() -> {
            range(percent, 0, 90);
            int previous = state.haircut;
            state.haircut = percent;
            return previous;
        });
    }

    Object declareDefault(int member) {
        return recorded(() -> doDeclareDefault(member));
    }

    private Object doDeclareDefault(int member) {
        int loss = (int) lossIfDefault(member);
        Map<Integer, Integer> shares = shares(member);
        shares.forEach((creditor, share) -> member(creditor).coins += share);
        shares.keySet().forEach(creditor -> setDebt(member, creditor, 0));
        member(member).coins = 0;
        member(member).collateral = 0;
        member(member).isInDefault = true;
        state.lost += loss;
        return loss;
    }

    private Map<Integer, Integer> shares(int member) {
        int means = member(member).coins + (int) cover(member);
        int debit = (int) debit(member);
        Map<Integer, Integer> shares = new TreeMap<>();
        List<Integer> creditors = new ArrayList<>();
        for (List<Integer> pair : state.debts.keySet()) {
            if (pair.get(0) == member) {
                creditors.add(pair.get(1));
                shares.put(pair.get(1), means * debt(member, pair.get(1)) / debit);
            }
        }
        creditors.sort(Comparator.<Integer>comparingInt(creditor -> -(means * debt(member, creditor) % debit))
                .thenComparingInt(creditor -> creditor));
        int left = means - shares.values().stream().mapToInt(share -> share).sum();
        creditors.subList(0, left).forEach(creditor -> shares.merge(creditor, 1, Integer::sum));
        return shares;
    }

    Object memberCount() {
        return state.members.size();
    }

    Object coins(int member) {
        return member(member).coins;
    }

    Object collateral(int member) {
        return member(member).collateral;
    }

    Object cover(int member) {
        return (int) Math.floor(member(member).collateral * (100 - state.haircut) / 100.0);
    }

    Object limit(int member) {
        return member(member).limit;
    }

    Object isInDefault(int member) {
        return member(member).isInDefault;
    }

    Object haircut() {
        return state.haircut;
    }

    Object owed(int debtor, int creditor) {
        pair(debtor, creditor);
        return debt(debtor, creditor);
    }

    Object debtCount() {
        return state.debts.size();
    }

    Object debit(int member) {
        member(member);
        return sum(0, member);
    }

    Object credit(int member) {
        member(member);
        return sum(1, member);
    }

    private int sum(int side, int member) {
        return state.debts.entrySet().stream().filter(debt -> debt.getKey().get(side) == member)
                .mapToInt(Map.Entry::getValue).sum();
    }

    Object position(int member) {
        return (int) credit(member) - (int) debit(member);
    }

    Object totalDebt() {
        return state.debts.values().stream().mapToInt(amount -> amount).sum();
    }

    Object largest(int side) {
        demand(!state.debts.isEmpty(), NoSuchElementException::new);
        int most = state.debts.values().stream().mapToInt(amount -> amount).max().getAsInt();
        return state.debts.entrySet().stream().filter(debt -> debt.getValue() == most).findFirst().get()
                .getKey().get(side);
    }

    Object triangles() {
        int count = 0;
        for (List<Integer> first : state.debts.keySet()) {
            for (List<Integer> second : state.debts.keySet()) {
                boolean isChain = first.get(1).equals(second.get(0)) && !first.get(0).equals(second.get(1));
                if (isChain && state.debts.containsKey(List.of(second.get(1), first.get(0)))) {
                    count++;
                }
            }
        }
        return count / 3;
    }

    Object reachCount(int member) {
        member(member);
        boolean[][] reached = closure();
        int count = 0;
        for (int other = 0; other < state.members.size(); other++) {
            count += other != member && reached[member][other] ? 1 : 0;
        }
        return count;
    }

    Object reaches(int from, int to) {
        pair(from, to);
        return closure()[from][to];
    }

    private boolean[][] closure() {
        boolean[][] reached = new boolean[8][8];
        state.debts.keySet().forEach(pair -> reached[pair.get(0)][pair.get(1)] = true);
        for (int middle = 0; middle < 8; middle++) {
            for (int place = 0; place < 64; place++) {
                reached[place / 8][place % 8] |= reached[place / 8][middle] && reached[middle][place % 8];
            }
        }
        return reached;
    }

    Object debtsAfterClearing() {
        return cleared().size();
    }

    Object lossIfDefault(int member) {
        int loss = (int) debit(member) - (int) coins(member) - (int) cover(member);
        demand(!member(member).isInDefault && loss > 0, IllegalStateException::new);
        return loss;
    }

    Object shareIfDefault(int member, int creditor) {
        pair(member, creditor);
        lossIfDefault(member);
        return shares(member).getOrDefault(creditor, 0);
    }

    Object memberByPosition(int rank) {
        List<Integer> sorted = new ArrayList<>();
        for (int member = 0; member < state.members.size(); member++) {
            sorted.add(member);
        }
        sorted.sort(Comparator.<Integer>comparingInt(member -> -(int) position(member))
                .thenComparingInt(member -> -(int) coins(member)).thenComparingInt(member -> member));
        demand(rank >= 0 && rank < sorted.size(), NoSuchElementException::new);
        return sorted.get(rank);
    }

    Object nettedAmount() {
        return state.netted;
    }

    Object lostAmount() {
        return state.lost;
    }

    Object meanPosition() {
        demand(!state.members.isEmpty(), ArithmeticException::new);
        int sum = 0;
        for (int member = 0; member < state.members.size(); member++) {
            sum += Math.abs((int) position(member));
        }
        return (double) sum / (double) state.members.size();
    }

    Object debtShare() {
        int members = state.members.size();
        demand(members >= 2, ArithmeticException::new);
        return (float) state.debts.size() / (float) (members * (members - 1));
    }

    Object feed(char character) {
        demand(input.length() < 60, IllegalStateException::new);
        input += character;
        return input.length();
    }

    Object runCommands() {
        String text = input;
        input = "";
        if (!TEXT.matcher(text).matches()) {
            errorPosition = errorIn(text);
            throw new IllegalArgumentException();
        }
        String[] commands = text.split(";");
        State before = state.copy();
        for (int index = 0; index < commands.length; index++) {
            try {
                carryOut(commands[index].split(" "));
            } catch (RuntimeException e) {
                state = before;
                failedCommand = index;
                throw new UnsupportedOperationException();
            }
        }
        State after = state;
        state = before;
        return recorded(() -> {
            state = after;
            return commands.length;
        });
    }

    /** Finds the longest beginning that can be continued, character by character. */
    private static int errorIn(String text) {
        for (int length = 1; length <= text.length(); length++) {
            Matcher matcher = TEXT.matcher(text.substring(0, length));
            if (!matcher.matches() && !matcher.hitEnd()) {
                return length - 1;
            }
        }
        return text.length();
    }

    private void carryOut(String[] words) {
        int[] numbers = new int[3];
        for (int index = 1; index < words.length; index++) {
            numbers[index - 1] = Integer.parseInt(words[index]);
        }
        switch (words[0]) {
            case "member" -> doAddMember();
            case "debt" -> doAddDebt(numbers[0], numbers[1], numbers[2]);
            case "pay" -> doPay(numbers[0], numbers[1], numbers[2]);
            case "net" -> doNetPair(numbers[0], numbers[1]);
            case "ring" -> doNetTriangle(numbers[0] / 100, numbers[0] / 10 % 10, numbers[0] % 10);
            case "clear" -> doClearAll();
            case "pledge" -> doPledge(numbers[0], numbers[1]);
            case "fail" -> doDeclareDefault(numbers[0]);
            default -> throw new AssertionError(words[0]);
        }
    }

    Object errorPosition() {
        demand(errorPosition != null, NoSuchElementException::new);
        return errorPosition;
    }

    Object failedCommand() {
        demand(failedCommand != null, NoSuchElementException::new);
        return failedCommand;
    }

    Object writeDebts(int member) {
        StringBuilder text = new StringBuilder(member(member).coins + "c" + (member(member).isInDefault ? "!" : ""));
        state.debts.forEach((pair, amount) -> {
            if (pair.get(0) == member) {
                text.append(" >" + pair.get(1) + ":" + amount);
            }
        });
        output = text.toString();
        return output.length();
    }

    Object outputChar(int index) {
        demand(index >= 0 && index < output.length(), IndexOutOfBoundsException::new);
        return output.charAt(index);
    }

    Object undoCount() {
        return history.size();
    }

    Object undo() {
        demand(!history.isEmpty(), IllegalStateException::new);
        state = history.pop();
        return history.size();
    }

    Object save() {
        saved = state.copy();
        return saved.members.size();
    }

    Object restore() {
        demand(saved != null, IllegalStateException::new);
        state = saved.copy();
        history.clear();
        return state.members.size();
    }
}
