import java.util.Random;

/** Long runs of calls, always the same ones, each answer compared with the Oracle's. */
public final class RandomRunsTest {
    private static final int RUNS = 1500;
    private static final int MOST_CALLS = 512;

    private final Random random;
    private final int seed;
    private final int largestCount;
    private final int smallestMost;
    private final LeastPopulations x = new LeastPopulations();
    private final Oracle oracle = new Oracle();
    private int calls = 0;

    private RandomRunsTest(int seed) {
        this.seed = seed;
        random = new Random(seed);
        // small counts mostly have least populations, near ones grow slowly, the others fail
        int kind = seed % 3;
        largestCount = kind == 0 ? 2 : 20;
        smallestMost = kind == 1 ? 16 : 0;
    }

    public static void main(String[] args) {
        for (int seed = 0; seed < RUNS; seed++) {
            new RandomRunsTest(seed).run();
        }
        Check.end("RandomRunsTest");
    }

    private void run() {
        int classes = random.nextInt(9);
        for (int which = 0; which < classes; which++) {
            due("addClass()", x.addClass(), oracle.addClass());
        }
        while (calls < MOST_CALLS) {
            int pick = random.nextInt(100);
            if (pick < 8) {
                text();
            } else if (pick < 45) {
                change();
            } else {
                ask();
            }
        }
    }

    /** What the calls behind the last one of the document's answer is free. */
    private void due(String call, long got, long due) {
        calls++;
        if (calls <= MOST_CALLS) {
            Check.due("seed " + seed + " call " + calls + ": " + call, got, due);
        }
    }

    private void dueFloat(String call, float got, float due) {
        calls++;
        if (calls <= MOST_CALLS) {
            Check.dueFloat("seed " + seed + " call " + calls + ": " + call, got, due);
        }
    }

    private int below(int limit) {
        return random.nextInt(limit);
    }

    /** A number in the range from -2, or one of the farthest ones. */
    private int odd(int range) {
        int[] farthest = {Integer.MIN_VALUE, Integer.MAX_VALUE, 1 << 30, 3 << 30, Integer.MIN_VALUE / 3};
        return below(4) == 0 ? farthest[below(farthest.length)] : below(range) - 2;
    }

    private int which() {
        return below(12) == 0 ? odd(12) : below(Math.max(1, oracle.count(0)));
    }

    private int someLink() {
        return below(12) == 0 ? odd(14) : below(Math.max(1, oracle.count(1)));
    }

    private int end() {
        return below(15) == 0 ? odd(5) : below(2);
    }

    private int least() {
        return below(3) == 0 ? 0 : below(largestCount + 1);
    }

    private int most(int least) {
        if (below(3) == 0) {
            return 99;
        }
        int from = Math.max(least, Math.min(smallestMost, 20));
        return from + below(21 - from);
    }

    private String counts() {
        int least = least();
        int most = most(least);
        return least + ".." + (most == 99 ? "*" : "" + most);
    }

    private void text() {
        int known = Math.max(1, oracle.count(0));
        StringBuilder text = new StringBuilder();
        text.append(below(known)).append(':').append(counts()).append('-');
        text.append(below(known)).append(':').append(counts());
        if (below(4) == 0) {
            spoil(text);
        }
        if (below(30) == 0) {
            text.append("x".repeat(60));
        }
        due("clearText()", x.clearText(), oracle.clearText());
        for (int index = 0; index < text.length(); index++) {
            char character = text.charAt(index);
            due("type(" + (int) character + ")", x.type(character), oracle.type(character));
        }
        due("readLink() of " + text, x.readLink(), oracle.readLink());
    }

    private void spoil(StringBuilder text) {
        int index = below(text.length());
        char other = "0123456789:.-* \u0660\uffff".charAt(below(17));
        switch (below(4)) {
            case 0:
                text.setCharAt(index, other);
                break;
            case 1:
                text.insert(index, other);
                break;
            case 2:
                text.deleteCharAt(index);
                break;
            default:
                text.setLength(index);
        }
    }

    private int population() {
        switch (below(8)) {
            case 0:
                return 0;
            case 1:
                return odd(1008);
            case 2:
                return 1000;
            default:
                return below(40);
        }
    }

    private int sizeBits() {
        switch (below(6)) {
            case 0:
                return random.nextInt();
            case 1:
                return below(0x00900000);
            case 2:
                return 0x447A0000 + below(3) - 1;
            case 3:
                return Float.floatToRawIntBits(below(7) * 0.5f);
            default:
                return Float.floatToRawIntBits(random.nextFloat() * 1000.0f);
        }
    }

    private void change() {
        int which = which();
        int link = someLink();
        switch (below(16)) {
            case 0:
                due("addClass()", x.addClass(), oracle.addClass());
                break;
            case 1:
            case 2:
                int parent = below(3) == 0 ? 8 : which();
                due("setParent(" + which + ", " + parent + ")", x.setParent(which, parent), oracle.setParent(which, parent));
                break;
            case 3:
            case 4:
                int wanted = below(5) == 0 ? odd(104) : below(4);
                due("want(" + which + ", " + wanted + ")", x.want(which, wanted), oracle.want(which, wanted));
                break;
            case 5:
                int bits = sizeBits();
                due("setSize(" + which + ", " + bits + ")", x.setSize(which, bits), oracle.setSize(which, bits));
                break;
            case 6:
            case 7:
                setCounts(link);
                break;
            case 8:
                if (below(3) == 0) {
                    due("removeLink(" + link + ")", x.removeLink(link), oracle.removeLink(link));
                }
                break;
            case 9:
            case 10:
                int population = population();
                due("hold(" + which + ", " + population + ")", x.hold(which, population), oracle.hold(which, population));
                break;
            case 11:
            case 12:
                due("adopt()", x.adopt(), oracle.adopt());
                break;
            case 13:
                due("undo()", x.undo(), oracle.undo());
                break;
            case 14:
                due("keep()", x.keep(), oracle.keep());
                break;
            default:
                if (below(3) == 0) {
                    due("restore()", x.restore(), oracle.restore());
                }
        }
    }

    private void setCounts(int link) {
        int end = end();
        int least = below(10) == 0 ? odd(25) : least();
        int most = below(10) == 0 ? odd(103) : most(Math.max(0, Math.min(20, least)));
        due("setCounts(" + link + ", " + end + ", " + least + ", " + most + ")",
            x.setCounts(link, end, least, most), oracle.setCounts(link, end, least, most));
    }

    private int objectOf(int link, int end) {
        int held = oracle.classTold(oracle.link(link, end), 3);
        return below(10) == 0 ? odd(1005) : below(Math.max(1, held));
    }

    private void ask() {
        int which = which();
        int link = someLink();
        int end = end();
        switch (below(18)) {
            case 0:
                int what = below(9) == 0 ? odd(9) : below(5);
                due("classTold(" + which + ", " + what + ")", x.classTold(which, what), oracle.classTold(which, what));
                break;
            case 1:
                int slot = below(9) == 0 ? odd(10) : below(6);
                due("link(" + link + ", " + slot + ")", x.link(link, slot), oracle.link(link, slot));
                break;
            case 2:
                dueFloat("size(" + which + ")", x.size(which), oracle.size(which));
                break;
            case 3:
                due("least(" + which + ")", x.least(which), oracle.least(which));
                break;
            case 4:
                due("why(" + which + ")", x.why(which), oracle.why(which));
                break;
            case 5:
                due("isForced(" + which + ")", x.isForced(which), oracle.isForced(which));
                break;
            case 6:
                due("oneMore(" + which + ")", x.oneMore(which), oracle.oneMore(which));
                break;
            case 7:
                boolean most = below(2) == 0;
                due("isIdle(" + link + ", " + end + ", " + most + ")", x.isIdle(link, end, most), oracle.isIdle(link, end, most));
                break;
            case 8:
                int rank = below(6) == 0 ? odd(45) : below(7) - 1;
                due("repair(" + rank + ")", x.repair(rank), oracle.repair(rank));
                break;
            case 9:
                int rule = below(5) == 0 ? odd(62) : below(44);
                due("keeps(" + rule + ")", x.keeps(rule), oracle.keeps(rule));
                break;
            case 10:
            case 11:
                int first = objectOf(link, 0);
                int second = objectOf(link, 1);
                due("joined(" + link + ", " + first + ", " + second + ")", x.joined(link, first, second), oracle.joined(link, first, second));
                break;
            case 12:
            case 13:
                int object = objectOf(link, end == 1 ? 1 : 0);
                due("degree(" + link + ", " + end + ", " + object + ")", x.degree(link, end, object), oracle.degree(link, end, object));
                break;
            case 14:
                dueFloat("average(" + link + ", " + end + ")", x.average(link, end), oracle.average(link, end));
                break;
            case 15:
                dueFloat("cost()", x.cost(), oracle.cost());
                break;
            case 16:
                dueFloat("share(" + which + ")", x.share(which), oracle.share(which));
                break;
            default:
                int number = below(9) == 0 ? odd(13) : below(9);
                due("count(" + number + ")", x.count(number), oracle.count(number));
        }
    }
}
