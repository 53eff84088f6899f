/**
 * Errors, and the order in which they are looked for: each call that is refused, or answers NONE, is
 * made on one of two diagrams that are alike, and then both of them must be alike still, in what they
 * tell and in what they keep for later.
 */
public final class RefusedTest {
    private static final int UNKNOWN = -1;
    private static final int BAD = -2;
    private static final int FULL = -3;
    private static final int NOT_POSSIBLE = -4;
    private static final int NONE = -5;
    private static final int LEAST = Integer.MIN_VALUE;
    private static final int MOST = Integer.MAX_VALUE;
    /** What is looked at afterwards: all as it is, each state of the history, the snapshot, the text. */
    private static final int WAYS = 8;

    private interface Call {
        double answer(LeastPopulations x);
    }

    public static void main(String[] args) {
        classes();
        sizes();
        links();
        counts();
        held();
        textsAndHistory();
        classesTold();
        leasts();
        counted();
        heldObjects();
        floats();
        whatOnlyTells();
        Check.end("RefusedTest");
    }

    private static void refused(Scene scene, String name, double due, Call call) {
        for (int way = 0; way < WAYS; way++) {
            LeastPopulations x = scene.make();
            Check.dueFloat(scene + ": " + name, (float) call.answer(x), (float) due);
            alike(x, scene.make(), way, scene + ": " + name);
        }
    }

    private static void tells(Scene scene, String name, Call call) {
        double answer = call.answer(scene.make());
        refused(scene, name, answer, call);
    }

    private static void alike(LeastPopulations x, LeastPopulations twin, int way, String name) {
        go(x, way);
        go(twin, way);
        String got = Portrait.of(x);
        String due = Portrait.of(twin);
        Check.due(name + " changed nothing, way " + way, got.equals(due) ? 1 : 0, 1);
    }

    private static void go(LeastPopulations x, int way) {
        if (way < 5) {
            for (int step = 0; step < way; step++) {
                x.undo();
            }
        } else if (way == 5) {
            x.restore();
        } else if (way == 6) {
            x.undo();
            x.readLink();
        } else {
            x.addClass();
            x.type('*');
            x.undo();
        }
    }

    private static void classes() {
        refused(Scene.FULL, "addClass(), a ninth one", FULL, x -> x.addClass());
        for (int which : new int[] {3, -1, 8, LEAST, MOST}) {
            String told = "(" + which + ", ";
            refused(Scene.SOME, "setParent" + told + "0)", UNKNOWN, x -> x.setParent(which, 0));
            refused(Scene.SOME, "setParent" + told + "8)", UNKNOWN, x -> x.setParent(which, 8));
            refused(Scene.SOME, "setParent" + told + "9)", UNKNOWN, x -> x.setParent(which, 9));
            refused(Scene.SOME, "want" + told + "1)", UNKNOWN, x -> x.want(which, 1));
            refused(Scene.SOME, "want" + told + "100)", UNKNOWN, x -> x.want(which, 100));
        }
        refused(Scene.NEW, "setParent(0, 8)", UNKNOWN, x -> x.setParent(0, 8));
        refused(Scene.NEW, "want(0, 0)", UNKNOWN, x -> x.want(0, 0));
        refused(Scene.FULL, "setParent(8, 8)", UNKNOWN, x -> x.setParent(8, 8));
        for (int parent : new int[] {3, 7, 9, -1, LEAST, MOST}) {
            refused(Scene.SOME, "setParent(0, " + parent + ")", BAD, x -> x.setParent(0, parent));
        }
        refused(Scene.SOME, "setParent(1, 1), itself", NOT_POSSIBLE, x -> x.setParent(1, 1));
        refused(Scene.SOME, "setParent(2, 0), below it", NOT_POSSIBLE, x -> x.setParent(2, 0));
        refused(Scene.FULL, "setParent(7, 3), below it", NOT_POSSIBLE, x -> x.setParent(7, 3));
        refused(Scene.SOME, "setParent(0, 2), so already", NONE, x -> x.setParent(0, 2));
        refused(Scene.SOME, "setParent(1, 8), so already", NONE, x -> x.setParent(1, 8));
        for (int wanted : new int[] {100, -1, LEAST, MOST}) {
            refused(Scene.SOME, "want(0, " + wanted + ")", BAD, x -> x.want(0, wanted));
        }
        refused(Scene.SOME, "want(0, 2), so already", NONE, x -> x.want(0, 2));
        refused(Scene.SOME, "want(1, 0), so already", NONE, x -> x.want(1, 0));
    }

    private static void sizes() {
        refused(Scene.SOME, "setSize(3, 1.0f)", UNKNOWN, x -> x.setSize(3, 0x3F800000));
        refused(Scene.SOME, "setSize(-1, a NaN)", UNKNOWN, x -> x.setSize(-1, 0x7FC00000));
        int[] bad = {0x447A0001, 0x7F800000, 0x7F800001, 0x7FC00000, MOST, LEAST, LEAST + 1, 0xBF800000, 0xFF800000, -1};
        for (int bits : bad) {
            refused(Scene.SOME, "setSize(1, " + bits + ")", BAD, x -> x.setSize(1, bits));
        }
        refused(Scene.SOME, "setSize(1, 2.5f), so already", NONE, x -> x.setSize(1, 0x40200000));
        refused(Scene.FULL, "setSize(0, 1.0f), so already", NONE, x -> x.setSize(0, 0x3F800000));
    }

    private static void links() {
        refused(Scene.NEW, "readLink() of the empty text", -100, x -> x.readLink());
        refused(Scene.UNFIT, "readLink(), a fault at the end", -105, x -> x.readLink());
        refused(Scene.FULL, "readLink(), a fault, and no room", -113, x -> x.readLink());
        refused(Scene.STRANGE, "readLink(), no class, and no room", UNKNOWN, x -> x.readLink());
        refused(Scene.LINKED, "readLink(), no room", FULL, x -> x.readLink());
        for (int link : new int[] {2, -1, 10, LEAST, MOST}) {
            refused(Scene.SOME, "removeLink(" + link + ")", UNKNOWN, x -> x.removeLink(link));
            for (int what : new int[] {0, 6, -1}) {
                String told = "link(" + link + ", " + what + ")";
                refused(Scene.SOME, told, UNKNOWN, x -> x.link(link, what));
            }
        }
        refused(Scene.NEW, "removeLink(0)", UNKNOWN, x -> x.removeLink(0));
        refused(Scene.LINKED, "removeLink(10)", UNKNOWN, x -> x.removeLink(10));
        refused(Scene.LINKED, "link(10, 0)", UNKNOWN, x -> x.link(10, 0));
        for (int what : new int[] {6, 7, -1, LEAST, MOST}) {
            refused(Scene.SOME, "link(1, " + what + ")", BAD, x -> x.link(1, what));
        }
    }

    private static void counts() {
        for (int link : new int[] {2, -1, LEAST, MOST}) {
            refused(Scene.SOME, "setCounts(" + link + ", 0, 0, 5)", UNKNOWN, x -> x.setCounts(link, 0, 0, 5));
            refused(Scene.SOME, "setCounts(" + link + ", 2, 9, 8)", UNKNOWN, x -> x.setCounts(link, 2, 9, 8));
        }
        for (int end : new int[] {2, -1, LEAST, MOST}) {
            refused(Scene.SOME, "setCounts(0, " + end + ", 0, 5)", UNKNOWN, x -> x.setCounts(0, end, 0, 5));
            refused(Scene.SOME, "setCounts(0, " + end + ", 0, 21)", UNKNOWN, x -> x.setCounts(0, end, 0, 21));
        }
        int[][] bad = {{-1, 5}, {21, 21}, {21, 99}, {99, 99}, {LEAST, 5}, {MOST, 99}, {MOST, MOST}, {5, 4}, {1, 0},
            {0, 21}, {0, 98}, {0, 100}, {0, -1}, {0, LEAST}, {0, MOST}, {-1, -1}};
        for (int[] pair : bad) {
            String told = pair[0] + ", " + pair[1] + ")";
            refused(Scene.SOME, "setCounts(0, 0, " + told, BAD, x -> x.setCounts(0, 0, pair[0], pair[1]));
            refused(Scene.SOME, "setCounts(1, 1, " + told, BAD, x -> x.setCounts(1, 1, pair[0], pair[1]));
        }
        refused(Scene.SOME, "setCounts(0, 0, 1, 2), so already", NONE, x -> x.setCounts(0, 0, 1, 2));
        refused(Scene.SOME, "setCounts(0, 1, 3, 99), so already", NONE, x -> x.setCounts(0, 1, 3, 99));
    }

    private static void held() {
        for (int which : new int[] {3, -1, LEAST, MOST}) {
            refused(Scene.SOME, "hold(" + which + ", 1)", UNKNOWN, x -> x.hold(which, 1));
            refused(Scene.SOME, "hold(" + which + ", 1001)", UNKNOWN, x -> x.hold(which, 1001));
        }
        for (int population : new int[] {1001, -1, LEAST, MOST}) {
            refused(Scene.SOME, "hold(0, " + population + ")", BAD, x -> x.hold(0, population));
        }
        refused(Scene.SOME, "hold(0, 2), so already", NONE, x -> x.hold(0, 2));
        refused(Scene.SOME, "hold(2, 0), so already", NONE, x -> x.hold(2, 0));
        refused(Scene.UNFIT, "adopt(), no leasts", NOT_POSSIBLE, x -> x.adopt());
        refused(Scene.ADOPTED, "adopt(), held already", NONE, x -> x.adopt());
        refused(Scene.NEW, "adopt() without classes", NONE, x -> x.adopt());
    }

    private static void textsAndHistory() {
        refused(Scene.FULL, "type, a 61st character", FULL, x -> x.type('x'));
        refused(Scene.NEW, "clearText() of the empty text", 0, x -> x.clearText());
        refused(Scene.NEW, "undo() without a history", NONE, x -> x.undo());
        refused(Scene.SPENT, "undo() without a history", NONE, x -> x.undo());
        refused(Scene.SPENT, "want(0, 2), so already", NONE, x -> x.want(0, 2));
        refused(Scene.SPENT, "hold(0, 1001)", BAD, x -> x.hold(0, 1001));
        refused(Scene.NEW, "restore() without a snapshot", NONE, x -> x.restore());
        refused(Scene.UNFIT, "restore() without a snapshot", NONE, x -> x.restore());
    }

    private static void classesTold() {
        for (int which : new int[] {3, -1, LEAST, MOST}) {
            refused(Scene.SOME, "classTold(" + which + ", 0)", UNKNOWN, x -> x.classTold(which, 0));
            refused(Scene.SOME, "classTold(" + which + ", 5)", UNKNOWN, x -> x.classTold(which, 5));
            refused(Scene.SOME, "size(" + which + ")", Double.NaN, x -> x.size(which));
        }
        for (int what : new int[] {5, 6, -1, LEAST, MOST}) {
            refused(Scene.SOME, "classTold(0, " + what + ")", BAD, x -> x.classTold(0, what));
        }
        refused(Scene.SOME, "classTold(1, 0), no parent", NONE, x -> x.classTold(1, 0));
        refused(Scene.NEW, "classTold(0, 0)", UNKNOWN, x -> x.classTold(0, 0));
        refused(Scene.NEW, "size(0)", Double.NaN, x -> x.size(0));
    }

    private static void leasts() {
        for (int which : new int[] {3, -1, LEAST, MOST}) {
            for (Scene scene : new Scene[] {Scene.SOME, Scene.UNFIT}) {
                refused(scene, "least(" + which + ")", UNKNOWN, x -> x.least(which));
                refused(scene, "why(" + which + ")", UNKNOWN, x -> x.why(which));
                refused(scene, "isForced(" + which + ")", UNKNOWN, x -> x.isForced(which));
                refused(scene, "oneMore(" + which + ")", UNKNOWN, x -> x.oneMore(which));
            }
        }
        for (int which = 0; which < 2; which++) {
            int known = which;
            refused(Scene.UNFIT, "least(" + known + ")", NOT_POSSIBLE, x -> x.least(known));
            refused(Scene.UNFIT, "why(" + known + ")", NOT_POSSIBLE, x -> x.why(known));
            refused(Scene.UNFIT, "oneMore(" + known + ")", NOT_POSSIBLE, x -> x.oneMore(known));
        }
        refused(Scene.FULL, "why(5), none there", NONE, x -> x.why(5));
        refused(Scene.NEW, "least(0)", UNKNOWN, x -> x.least(0));
        refused(Scene.FULL, "isForced(8)", UNKNOWN, x -> x.isForced(8));
    }

    private static void counted() {
        for (int other : new int[] {2, -1, LEAST, MOST}) {
            refused(Scene.SOME, "isIdle(" + other + ", 0, true)", UNKNOWN, x -> x.isIdle(other, 0, true));
            refused(Scene.SOME, "isIdle(0, " + other + ", false)", UNKNOWN, x -> x.isIdle(0, other, false));
            refused(Scene.UNFIT, "isIdle(" + other + ", 1, false)", UNKNOWN, x -> x.isIdle(other, 1, false));
            refused(Scene.UNFIT, "isIdle(1, " + other + ", true)", UNKNOWN, x -> x.isIdle(1, other, true));
        }
        for (int rank : new int[] {-1, LEAST}) {
            refused(Scene.SOME, "repair(" + rank + "), there are leasts", BAD, x -> x.repair(rank));
            refused(Scene.UNFIT, "repair(" + rank + ")", BAD, x -> x.repair(rank));
        }
        for (int rank : new int[] {0, 1, 40, MOST}) {
            refused(Scene.SOME, "repair(" + rank + "), there are leasts", NOT_POSSIBLE, x -> x.repair(rank));
            refused(Scene.NEW, "repair(" + rank + "), there are leasts", NOT_POSSIBLE, x -> x.repair(rank));
        }
        for (int rank : new int[] {2, 3, 40, MOST}) {
            refused(Scene.UNFIT, "repair(" + rank + "), not so many", NONE, x -> x.repair(rank));
        }
        for (int what : new int[] {9, 10, -1, LEAST, MOST}) {
            refused(Scene.SOME, "count(" + what + ")", BAD, x -> x.count(what));
        }
        refused(Scene.UNFIT, "count(2), no leasts", NONE, x -> x.count(2));
    }

    private static void heldObjects() {
        for (int rule : new int[] {58, 59, 99, -1, LEAST, MOST}) {
            refused(Scene.SOME, "keeps(" + rule + ")", BAD, x -> x.keeps(rule));
        }
        for (int rule : new int[] {8, 39, 43, 47, 48, 49, 53, 57}) {
            refused(Scene.SOME, "keeps(" + rule + ")", NONE, x -> x.keeps(rule));
        }
        refused(Scene.FULL, "keeps(48)", NONE, x -> x.keeps(48));
        refused(Scene.FULL, "keeps(49)", NONE, x -> x.keeps(49));
        for (int other : new int[] {2, -1, LEAST, MOST}) {
            refused(Scene.SOME, "joined(" + other + ", 0, 0)", UNKNOWN, x -> x.joined(other, 0, 0));
            refused(Scene.SOME, "degree(" + other + ", 0, 0)", UNKNOWN, x -> x.degree(other, 0, 0));
            refused(Scene.SOME, "degree(0, " + other + ", 0)", UNKNOWN, x -> x.degree(0, other, 0));
        }
        // in UNFIT, three of class 0 and five of class 1 are held, against the rules of both links
        for (int object : new int[] {3, 4, -1, LEAST, MOST}) {
            refused(Scene.UNFIT, "joined(1, " + object + ", 0)", UNKNOWN, x -> x.joined(1, object, 0));
            refused(Scene.UNFIT, "degree(1, 0, " + object + ")", UNKNOWN, x -> x.degree(1, 0, object));
        }
        for (int object : new int[] {5, 6, -1, LEAST, MOST}) {
            refused(Scene.UNFIT, "joined(1, 0, " + object + ")", UNKNOWN, x -> x.joined(1, 0, object));
            refused(Scene.UNFIT, "degree(1, 1, " + object + ")", UNKNOWN, x -> x.degree(1, 1, object));
        }
        refused(Scene.UNFIT, "joined(0, 2, 2)", NOT_POSSIBLE, x -> x.joined(0, 2, 2));
        refused(Scene.UNFIT, "degree(0, 0, 2)", NOT_POSSIBLE, x -> x.degree(0, 0, 2));
        refused(Scene.UNFIT, "degree(0, 1, 2)", NOT_POSSIBLE, x -> x.degree(0, 1, 2));
        refused(Scene.LINKED, "joined(9, 0, 1), no object", UNKNOWN, x -> x.joined(9, 0, 1));
    }

    private static void floats() {
        for (int other : new int[] {2, -1, LEAST, MOST}) {
            refused(Scene.SOME, "average(" + other + ", 0)", Double.NaN, x -> x.average(other, 0));
            refused(Scene.SOME, "average(0, " + other + ")", Double.NaN, x -> x.average(0, other));
        }
        refused(Scene.UNFIT, "average(0, 0), not kept", Double.NaN, x -> x.average(0, 0));
        for (int which : new int[] {3, -1, LEAST, MOST}) {
            refused(Scene.SOME, "share(" + which + ")", Double.NaN, x -> x.share(which));
        }
    }

    /** Calls that are no acts, and answer no error, leave all as it is too. */
    private static void whatOnlyTells() {
        tells(Scene.SOME, "a portrait", x -> Portrait.of(x).length());
        tells(Scene.UNFIT, "a portrait", x -> Portrait.of(x).length());
        for (Scene scene : new Scene[] {Scene.SOME, Scene.UNFIT, Scene.FULL}) {
            for (int rank = 0; rank < 2; rank++) {
                int known = rank;
                tells(scene, "repair(" + rank + ")", x -> x.repair(known));
                tells(scene, "oneMore(" + rank + ")", x -> x.oneMore(known));
                tells(scene, "isForced(" + rank + ")", x -> x.isForced(known));
                tells(scene, "isIdle(" + rank + ", 1, false)", x -> x.isIdle(known, 1, false));
                tells(scene, "joined(" + rank + ", 0, 0)", x -> x.joined(known, 0, 0));
                tells(scene, "degree(" + rank + ", 1, 0)", x -> x.degree(known, 1, 0));
            }
            tells(scene, "count(3)", x -> x.count(3));
            tells(scene, "count(5)", x -> x.count(5));
        }
    }
}
