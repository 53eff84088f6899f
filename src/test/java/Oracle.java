import java.util.ArrayDeque;
import java.util.ArrayList;
import java.util.Deque;
import java.util.List;
import java.util.regex.Matcher;
import java.util.regex.Pattern;

/** The document once more, word by word and slowly, to compare the program with. */
final class Oracle {
    private static final int TOO_MANY = Integer.MAX_VALUE;

    private static final class State {
        List<Integer> parent = new ArrayList<>();
        List<Integer> wanted = new ArrayList<>();
        List<Integer> held = new ArrayList<>();
        List<Integer> sizeBits = new ArrayList<>();
        List<int[]> links = new ArrayList<>();

        State copy() {
            State to = new State();
            to.parent.addAll(parent);
            to.wanted.addAll(wanted);
            to.held.addAll(held);
            to.sizeBits.addAll(sizeBits);
            for (int[] row : links) {
                to.links.add(row.clone());
            }
            return to;
        }

        int classes() {
            return parent.size();
        }
    }

    private State state = new State();
    private final Deque<State> past = new ArrayDeque<>();
    private State snapshot = null;
    private String text = "";

    private boolean noClass(int which) {
        return which < 0 || which >= state.classes();
    }

    private boolean noLink(int link) {
        return link < 0 || link >= state.links.size();
    }

    private void act() {
        past.addLast(state.copy());
        if (past.size() > 4) {
            past.removeFirst();
        }
    }

    int addClass() {
        if (state.classes() == 8) {
            return -3;
        }
        act();
        state.parent.add(8);
        state.wanted.add(0);
        state.held.add(0);
        state.sizeBits.add(Float.floatToRawIntBits(1.0f));
        return state.classes() - 1;
    }

    int setParent(int which, int parent) {
        if (noClass(which)) {
            return -1;
        }
        if (parent != 8 && noClass(parent)) {
            return -2;
        }
        List<Integer> line = new ArrayList<>();
        int above = parent;
        while (above != 8) {
            line.add(above);
            above = state.parent.get(above);
        }
        if (line.contains(which)) {
            return -4;
        }
        int before = state.parent.get(which);
        if (before == parent) {
            return -5;
        }
        act();
        state.parent.set(which, parent);
        return before;
    }

    int want(int which, int wanted) {
        if (noClass(which)) {
            return -1;
        }
        if (wanted < 0 || wanted > 99) {
            return -2;
        }
        int before = state.wanted.get(which);
        if (before == wanted) {
            return -5;
        }
        act();
        state.wanted.set(which, wanted);
        return before;
    }

    int setSize(int which, int bits) {
        if (noClass(which)) {
            return -1;
        }
        float size = Float.intBitsToFloat(bits);
        if (Float.isNaN(size) || size < 0.0f || size > 1000.0f || bits == Integer.MIN_VALUE) {
            return -2;
        }
        if (state.sizeBits.get(which) == bits) {
            return -5;
        }
        act();
        state.sizeBits.set(which, bits);
        return 1;
    }

    /** The fault, or -1; the link goes into the row. */
    private int fault(int[] row) {
        String[] tokens = {"[0-9]", ":", "1[0-9]|20|[0-9]", "\\.", "\\.", "1[0-9]|20|[0-9]|\\*", "-",
            "[0-9]", ":", "1[0-9]|20|[0-9]", "\\.", "\\.", "1[0-9]|20|[0-9]|\\*"};
        int[] slots = {0, -1, 2, -1, -1, 3, -1, 1, -1, 4, -1, -1, 5};
        int at = 0;
        for (int token = 0; token < tokens.length; token++) {
            Matcher found = Pattern.compile(tokens[token]).matcher(text).region(at, text.length());
            if (!found.lookingAt()) {
                return at;
            }
            int slot = slots[token];
            if (slot >= 0) {
                row[slot] = found.group().equals("*") ? 99 : Integer.parseInt(found.group());
                if ((slot == 3 || slot == 5) && row[slot] < row[slot - 1]) {
                    return found.end() - 1;
                }
            }
            at = found.end();
        }
        return at < text.length() ? at : -1;
    }

    int readLink() {
        int[] row = new int[6];
        int fault = fault(row);
        if (fault >= 0) {
            return -100 - fault;
        }
        if (noClass(row[0]) || noClass(row[1])) {
            return -1;
        }
        if (state.links.size() == 10) {
            return -3;
        }
        act();
        state.links.add(row);
        return state.links.size() - 1;
    }

    int setCounts(int link, int end, int least, int most) {
        if (noLink(link) || (end != 0 && end != 1)) {
            return -1;
        }
        if (least < 0 || least > 20 || !(most == 99 || (least <= most && most <= 20))) {
            return -2;
        }
        int[] row = state.links.get(link);
        int before = 100 * row[2 + 2 * end] + row[3 + 2 * end];
        if (before == 100 * least + most) {
            return -5;
        }
        act();
        row[2 + 2 * end] = least;
        row[3 + 2 * end] = most;
        return before;
    }

    int removeLink(int link) {
        if (noLink(link)) {
            return -1;
        }
        act();
        state.links.remove(link);
        return state.links.size();
    }

    int hold(int which, int population) {
        if (noClass(which)) {
            return -1;
        }
        if (population < 0 || population > 1000) {
            return -2;
        }
        if (state.held.get(which) == population) {
            return -5;
        }
        act();
        state.held.set(which, population);
        return firstBroken();
    }

    int adopt() {
        int[] least = solve(state);
        if (least == null) {
            return -4;
        }
        boolean same = true;
        for (int c = 0; c < state.classes(); c++) {
            same &= state.held.get(c) == least[c];
        }
        if (same) {
            return -5;
        }
        act();
        for (int c = 0; c < state.classes(); c++) {
            state.held.set(c, least[c]);
        }
        return roots(heldNow());
    }

    int type(char character) {
        if (text.length() == 60) {
            return -3;
        }
        text = text + character;
        return text.length();
    }

    int clearText() {
        int before = text.length();
        text = "";
        return before;
    }

    int undo() {
        if (past.isEmpty()) {
            return -5;
        }
        state = past.removeLast();
        return past.size();
    }

    int keep() {
        snapshot = state.copy();
        return state.classes();
    }

    int restore() {
        if (snapshot == null) {
            return -5;
        }
        act();
        state = snapshot.copy();
        return state.classes();
    }

    int classTold(int which, int what) {
        if (noClass(which)) {
            return -1;
        }
        switch (what) {
            case 0:
                return state.parent.get(which) == 8 ? -5 : state.parent.get(which);
            case 1:
                return state.wanted.get(which);
            case 2:
                int bits = 0;
                for (int c = 0; c < state.classes(); c++) {
                    bits += state.parent.get(c) == which ? 1 << c : 0;
                }
                return bits;
            case 3:
                return state.held.get(which);
            case 4:
                return (int) state.links.stream().filter(r -> r[0] == which || r[1] == which).count();
            default:
                return -2;
        }
    }

    int link(int link, int what) {
        if (noLink(link)) {
            return -1;
        }
        return what < 0 || what > 5 ? -2 : state.links.get(link)[what];
    }

    float size(int which) {
        return noClass(which) ? Float.NaN : Float.intBitsToFloat(state.sizeBits.get(which));
    }

    private int[] heldNow() {
        return state.held.stream().mapToInt(n -> n).toArray();
    }

    private int roots(int[] people) {
        int sum = 0;
        for (int c = 0; c < state.classes(); c++) {
            sum += state.parent.get(c) == 8 ? people[c] : 0;
        }
        return sum;
    }

    private static boolean exists(State s, int rule) {
        if (rule < 40) {
            return rule / 4 < s.links.size();
        }
        return rule < 50 ? rule - 40 < s.classes() : rule - 50 < s.classes();
    }

    private static int target(State s, int rule) {
        if (rule < 40) {
            return s.links.get(rule / 4)[rule % 2 == 0 ? 1 : 0];
        }
        return rule < 50 ? rule - 40 : rule - 50;
    }

    /** Whether the rule would be kept if what it asks of had the number, all else being as it is. */
    private static boolean keptWith(State s, int rule, int[] people, int number) {
        if (rule >= 50) {
            return number >= s.wanted.get(rule - 50);
        }
        if (rule >= 40) {
            int sum = 0;
            for (int c = 0; c < s.classes(); c++) {
                sum += s.parent.get(c) == rule - 40 ? people[c] : 0;
            }
            return number >= sum;
        }
        int[] row = s.links.get(rule / 4);
        long high1 = row[3] == 99 ? 1000000 : row[3];
        long high2 = row[5] == 99 ? 1000000 : row[5];
        long a = rule % 2 == 0 ? people[row[0]] : number;
        long b = rule % 2 == 0 ? number : people[row[1]];
        switch (rule % 4) {
            case 0:
                return b * high1 >= a * row[4];
            case 1:
                return a * high2 >= b * row[2];
            case 2:
                return a == 0 || b >= row[4];
            default:
                return b == 0 || a >= row[2];
        }
    }

    private static int asked(State s, int rule, int[] people) {
        for (int number = 0; number <= 1000; number++) {
            if (keptWith(s, rule, people, number)) {
                return number;
            }
        }
        return TOO_MANY;
    }

    /** The least populations, or null. */
    private static int[] solve(State s) {
        int[] people = new int[s.classes()];
        boolean changed = true;
        while (changed) {
            changed = false;
            for (int rule = 57; rule >= 0; rule--) {
                if (!exists(s, rule) || keptWith(s, rule, people, people[target(s, rule)])) {
                    continue;
                }
                int asked = asked(s, rule, people);
                if (asked == TOO_MANY) {
                    return null;
                }
                people[target(s, rule)] = asked;
                changed = true;
            }
        }
        return people;
    }

    int least(int which) {
        if (noClass(which)) {
            return -1;
        }
        int[] people = solve(state);
        return people == null ? -4 : people[which];
    }

    int why(int which) {
        if (noClass(which)) {
            return -1;
        }
        int[] people = solve(state);
        if (people == null) {
            return -4;
        }
        for (int rule = 0; rule <= 57 && people[which] != 0; rule++) {
            if (exists(state, rule) && target(state, rule) == which
                && asked(state, rule, people) == people[which]) {
                return rule;
            }
        }
        return -5;
    }

    int isForced(int which) {
        if (noClass(which)) {
            return -1;
        }
        State s = state.copy();
        for (int c = 0; c < s.classes(); c++) {
            s.wanted.set(c, c == which ? 1 : 0);
        }
        return solve(s) == null ? 1 : 0;
    }

    int oneMore(int which) {
        if (noClass(which)) {
            return -1;
        }
        State s = state.copy();
        s.wanted.set(which, s.wanted.get(which) + 1);
        int[] before = solve(state);
        int[] after = solve(s);
        return before == null || after == null ? -4 : roots(after) - roots(before);
    }

    private int[] solveWithout(int link, int slot) {
        State s = state.copy();
        s.links.get(link)[slot] = slot % 2 == 0 ? 0 : 99;
        return solve(s);
    }

    int isIdle(int link, int end, boolean most) {
        if (noLink(link) || (end != 0 && end != 1)) {
            return -1;
        }
        int[] without = solveWithout(link, 2 + 2 * end + (most ? 1 : 0));
        return java.util.Arrays.equals(solve(state), without) ? 1 : 0;
    }

    int repair(int rank) {
        if (rank < 0) {
            return -2;
        }
        if (solve(state) != null) {
            return -4;
        }
        List<Integer> found = new ArrayList<>();
        for (int link = 0; link < state.links.size(); link++) {
            for (int slot = 2; slot <= 5; slot++) {
                int idle = slot % 2 == 0 ? 0 : 99;
                if (state.links.get(link)[slot] != idle && solveWithout(link, slot) != null) {
                    found.add(4 * link + slot - 2);
                }
            }
        }
        return rank < found.size() ? found.get(rank) : -5;
    }

    int keeps(int rule) {
        if (rule < 0 || rule > 57) {
            return -2;
        }
        if (!exists(state, rule)) {
            return -5;
        }
        int[] people = heldNow();
        return keptWith(state, rule, people, people[target(state, rule)]) ? 1 : 0;
    }

    private int firstBroken() {
        for (int rule = 0; rule <= 57; rule++) {
            if (keeps(rule) == 0) {
                return rule;
            }
        }
        return 99;
    }

    private boolean broken(int link) {
        return keeps(4 * link) + keeps(4 * link + 1) + keeps(4 * link + 2) + keeps(4 * link + 3) < 4;
    }

    private int[][] pairs(int link) {
        int[] row = state.links.get(link);
        int a = state.held.get(row[0]);
        int b = state.held.get(row[1]);
        int number = Math.max(a * row[4], b * row[2]);
        int multiple = a;
        while (b != 0 && multiple % b != 0) {
            multiple += a;
        }
        int[][] pairs = new int[number][];
        for (int e = 0; e < number; e++) {
            pairs[e] = new int[] {e % a, (e + e / multiple) % b};
        }
        return pairs;
    }

    int joined(int link, int first, int second) {
        if (noLink(link)) {
            return -1;
        }
        int[] row = state.links.get(link);
        if (first < 0 || first >= state.held.get(row[0]) || second < 0 || second >= state.held.get(row[1])) {
            return -1;
        }
        if (broken(link)) {
            return -4;
        }
        for (int[] pair : pairs(link)) {
            if (pair[0] == first && pair[1] == second) {
                return 1;
            }
        }
        return 0;
    }

    int degree(int link, int end, int object) {
        if (noLink(link) || (end != 0 && end != 1)) {
            return -1;
        }
        if (object < 0 || object >= state.held.get(state.links.get(link)[end])) {
            return -1;
        }
        if (broken(link)) {
            return -4;
        }
        int degree = 0;
        for (int[] pair : pairs(link)) {
            degree += pair[end] == object ? 1 : 0;
        }
        return degree;
    }

    float average(int link, int end) {
        if (noLink(link) || (end != 0 && end != 1) || broken(link)) {
            return Float.NaN;
        }
        int objects = state.held.get(state.links.get(link)[end]);
        return objects == 0 ? 0.0f : (float) pairs(link).length / (float) objects;
    }

    float cost() {
        float sum = 0.0f;
        for (int c = 0; c < state.classes(); c++) {
            float product = size(c) * (float) state.held.get(c);
            sum += product;
        }
        return sum;
    }

    float share(int which) {
        if (noClass(which)) {
            return Float.NaN;
        }
        float product = size(which) * (float) state.held.get(which);
        return cost() == 0.0f ? 0.0f : product / cost();
    }

    int count(int what) {
        int number = 0;
        switch (what) {
            case 0:
                return state.classes();
            case 1:
                return state.links.size();
            case 2:
                return solve(state) == null ? -5 : roots(solve(state));
            case 3:
                for (int c = 0; c < state.classes(); c++) {
                    number += isForced(c);
                }
                return number;
            case 4:
                return firstBroken();
            case 5:
                for (int n = 0; n < 4 * state.links.size(); n++) {
                    number += isIdle(n / 4, n / 2 % 2, n % 2 == 1);
                }
                return number;
            case 6:
                return roots(heldNow());
            case 7:
                return past.size();
            case 8:
                return text.length();
            default:
                return -2;
        }
    }
}
