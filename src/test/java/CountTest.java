/** Promise 31: what count tells, each number by the calls that it sums up. */
public final class CountTest {
    public static void main(String[] args) {
        constants();
        LeastPopulations x = Make.diagram(5, "0:1..2-1:3..*", "2:0..1-2:2..*");
        x.setParent(0, 3);
        x.want(0, 2);
        x.hold(4, 6);
        x.hold(3, 1);
        countsAre(x, 5, 2, 5, 1, 50, 7, 7, 4, 13);
        x.want(2, 1);
        x.hold(0, 1);
        countsAre(x, 5, 2, -5, 1, 0, 6, 7, 4, 13);
        x.clearText();
        x.undo();
        x.removeLink(1);
        countsAre(x, 5, 1, 6, 0, 50, 3, 7, 4, 0);
        x.undo();
        x.undo();
        countsAre(x, 5, 2, 5, 1, 50, 7, 7, 2, 0);
        Check.due("count(-1)", x.count(-1), -2);
        Check.due("count(9)", x.count(9), -2);
        Check.due("count(2147483647)", x.count(2147483647), -2);
        Check.end("CountTest");
    }

    private static void countsAre(LeastPopulations x, int... due) {
        for (int what = 0; what < due.length; what++) {
            Check.due("count(" + what + ")", x.count(what), due[what]);
        }
    }

    private static void constants() {
        Check.due("UNKNOWN", LeastPopulations.UNKNOWN, -1);
        Check.due("BAD_VALUE", LeastPopulations.BAD_VALUE, -2);
        Check.due("FULL", LeastPopulations.FULL, -3);
        Check.due("NOT_POSSIBLE", LeastPopulations.NOT_POSSIBLE, -4);
        Check.due("NONE", LeastPopulations.NONE, -5);
    }
}
