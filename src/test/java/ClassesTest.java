/** Promises 1 to 5, 16 and 18: classes, made, changed and told. */
public final class ClassesTest {
    private static final int ONE = 0x3F800000;
    private static final int LARGEST = 0x447A0000;

    public static void main(String[] args) {
        promise1();
        promise2();
        promise3();
        promise4();
        promise5();
        promise16();
        promise18();
        Check.end("ClassesTest");
    }

    private static void promise1() {
        LeastPopulations x = new LeastPopulations();
        int[] counts = {0, 0, 0, 0, 99, 0, 0, 0, 0};
        for (int what = 0; what < counts.length; what++) {
            Check.due("new: count(" + what + ")", x.count(what), counts[what]);
        }
        Check.due("new: least(0)", x.least(0), -1);
        Check.due("new: undo()", x.undo(), -5);
        Check.due("new: restore()", x.restore(), -5);
        Check.due("new: adopt()", x.adopt(), -5);
        Check.due("new: readLink()", x.readLink(), -100);
        Check.due("new: repair(0)", x.repair(0), -4);
        Check.dueFloat("new: cost()", x.cost(), 0.0f);
        LeastPopulations other = new LeastPopulations();
        x.addClass();
        Check.due("another one: count(0)", other.count(0), 0);
    }

    private static void promise2() {
        LeastPopulations x = new LeastPopulations();
        for (int which = 0; which < 8; which++) {
            Check.due("addClass()", x.addClass(), which);
            Check.due("its parent", x.classTold(which, 0), -5);
            Check.due("its wanted number", x.classTold(which, 1), 0);
            Check.due("its population", x.classTold(which, 3), 0);
            Check.dueFloat("its size", x.size(which), 1.0f);
        }
        Check.due("count(7)", x.count(7), 4);
        Check.due("addClass(), a ninth one", x.addClass(), -3);
        Check.due("count(0)", x.count(0), 8);
        Check.due("undo() of the eighth one", x.undo(), 3);
        Check.due("count(0)", x.count(0), 7);
        addedAgain();
    }

    /** A class has the values of a new one also where another class was before. */
    private static void addedAgain() {
        for (int parent = 0; parent < 3; parent++) {
            LeastPopulations x = Make.classes(3);
            x.keep();
            x.addClass();
            x.setParent(3, parent);
            x.want(3, 3);
            x.hold(3, 4);
            x.setSize(3, LARGEST);
            x.restore();
            Check.due("addClass() where one was", x.addClass(), 3);
            Check.due("its parent", x.classTold(3, 0), -5);
            Check.due("its wanted number", x.classTold(3, 1), 0);
            Check.due("its population", x.classTold(3, 3), 0);
            Check.dueFloat("its size", x.size(3), 1.0f);
        }
    }

    private static void promise3() {
        LeastPopulations x = Make.classes(5);
        Check.due("setParent(1, 0)", x.setParent(1, 0), 8);
        Check.due("setParent(2, 1)", x.setParent(2, 1), 8);
        Check.due("setParent(3, 2)", x.setParent(3, 2), 8);
        Check.due("setParent(0, 3), a ring", x.setParent(0, 3), -4);
        Check.due("setParent(0, 1), a ring", x.setParent(0, 1), -4);
        Check.due("setParent(0, 0)", x.setParent(0, 0), -4);
        Check.due("setParent(3, 0), higher", x.setParent(3, 0), 2);
        Check.due("setParent(3, 0) again", x.setParent(3, 0), -5);
        Check.due("setParent(4, 8), as it is", x.setParent(4, 8), -5);
        Check.due("setParent(3, 8)", x.setParent(3, 8), 0);
        Check.due("setParent(0, 3), no ring now", x.setParent(0, 3), 8);
        Check.due("setParent(5, 0)", x.setParent(5, 0), -1);
        Check.due("setParent(-1, 0)", x.setParent(-1, 0), -1);
        Check.due("setParent(8, 9)", x.setParent(8, 9), -1);
        Check.due("setParent(0, 5)", x.setParent(0, 5), -2);
        Check.due("setParent(0, 7)", x.setParent(0, 7), -2);
        Check.due("setParent(0, 9)", x.setParent(0, 9), -2);
        Check.due("setParent(0, -1)", x.setParent(0, -1), -2);
        Check.due("classTold(0, 0)", x.classTold(0, 0), 3);
        Check.due("undo()", x.undo(), 3);
        Check.due("classTold(0, 0)", x.classTold(0, 0), -5);
        x = Make.classes(8);
        for (int which = 1; which < 8; which++) {
            x.setParent(which, which - 1);
        }
        Check.due("setParent(0, 7), a ring of all", x.setParent(0, 7), -4);
    }

    private static void promise4() {
        LeastPopulations x = Make.classes(2);
        Check.due("want(0, 7)", x.want(0, 7), 0);
        Check.due("want(0, 99)", x.want(0, 99), 7);
        Check.due("want(0, 99) again", x.want(0, 99), -5);
        Check.due("want(0, 100)", x.want(0, 100), -2);
        Check.due("want(0, -1)", x.want(0, -1), -2);
        Check.due("want(2, 1)", x.want(2, 1), -1);
        Check.due("want(2, 100)", x.want(2, 100), -1);
        Check.due("want(-1, 1)", x.want(-1, 1), -1);
        Check.due("want(1, 0), as it is", x.want(1, 0), -5);
        Check.due("want(0, 0)", x.want(0, 0), 99);
        Check.due("undo()", x.undo(), 3);
        Check.due("classTold(0, 1)", x.classTold(0, 1), 99);
        Check.due("least(0)", x.least(0), 99);
    }

    private static void promise5() {
        LeastPopulations x = Make.classes(1);
        Check.due("setSize(0, 1.0f), as it is", x.setSize(0, ONE), -5);
        int[] good = {0, LARGEST, LARGEST - 1, 1, 2, 0x7FFFFF, 0x800000, 0x800001, ONE - 1, ONE + 1,
            0x3F000000, 0x3DCCCCCD, 0x40490FDB, 0x42F6E979, 0x4B8000, 0xFFFFFF, 0x1000000};
        for (int bits : good) {
            Check.due("setSize(0, " + bits + ")", x.setSize(0, bits), 1);
            Check.due("again", x.setSize(0, bits), -5);
            Check.dueFloat("size(0)", x.size(0), Float.intBitsToFloat(bits));
        }
        int[] bad = {LARGEST + 1, 0x7F800000, 0x7F800001, 0x7FC00000, 0x7FFFFFFF, 0x80000000, 0x80000001,
            0xBF800000, 0xFF800000, 0xFFC00000, -1};
        for (int bits : bad) {
            Check.due("setSize(0, " + bits + ")", x.setSize(0, bits), -2);
            Check.due("setSize(1, " + bits + ")", x.setSize(1, bits), -1);
        }
        Check.due("setSize(-1, 0)", x.setSize(-1, 0), -1);
        Check.dueFloat("size(0)", x.size(0), Float.intBitsToFloat(0x1000000));
        x.undo();
        Check.dueFloat("size(0) after undo()", x.size(0), Float.intBitsToFloat(0xFFFFFF));
    }

    private static void promise16() {
        LeastPopulations x = Make.diagram(5, "0:0..*-1:0..*", "1:0..*-1:1..*", "1:0..*-2:0..*", "2:0..*-1:0..*");
        x.setParent(2, 3);
        x.setParent(0, 3);
        x.setParent(3, 4);
        x.want(3, 12);
        x.hold(3, 900);
        int[][] told = {{3, 0, 0, 0, 1}, {-5, 0, 0, 0, 4}, {3, 0, 0, 0, 2}, {4, 12, 5, 900, 0}, {-5, 0, 8, 0, 0}};
        for (int which = 0; which < 5; which++) {
            for (int what = 0; what < 5; what++) {
                Check.due("classTold(" + which + ", " + what + ")", x.classTold(which, what), told[which][what]);
            }
            Check.due("classTold(" + which + ", 5)", x.classTold(which, 5), -2);
            Check.due("classTold(" + which + ", -1)", x.classTold(which, -1), -2);
        }
        Check.due("classTold(5, 0)", x.classTold(5, 0), -1);
        Check.due("classTold(5, 9)", x.classTold(5, 9), -1);
        Check.due("classTold(-1, 0)", x.classTold(-1, 0), -1);
        x = Make.classes(8);
        x.setParent(7, 0);
        Check.due("classTold(0, 2)", x.classTold(0, 2), 128);
    }

    private static void promise18() {
        LeastPopulations x = Make.classes(2);
        x.setSize(1, 0x40490FDB);
        Check.dueFloat("size(0)", x.size(0), 1.0f);
        Check.dueFloat("size(1)", x.size(1), 3.1415927f);
        Check.dueFloat("size(2)", x.size(2), Float.NaN);
        Check.dueFloat("size(-1)", x.size(-1), Float.NaN);
        x.setSize(1, 0);
        Check.dueFloat("size(1)", x.size(1), 0.0f);
    }
}
