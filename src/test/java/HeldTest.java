/** Promises 9, 10 and 25 to 30: populations that are held, and what is joined then. */
public final class HeldTest {
    public static void main(String[] args) {
        promise9();
        promise10();
        promise25();
        promise26();
        rulesOfLinks();
        promise27();
        promise28();
        promise29();
        promise30();
        Check.end("HeldTest");
    }

    private static void promise9() {
        LeastPopulations x = Make.diagram(3, "0:1..2-1:3..4", "1:0..*-2:0..*");
        Check.due("hold(0, 2)", x.hold(0, 2), 0);
        Check.due("hold(1, 2)", x.hold(1, 2), 0);
        Check.due("hold(1, 3), three for each", x.hold(1, 3), 99);
        Check.due("hold(1, 8)", x.hold(1, 8), 99);
        Check.due("hold(1, 9), more than 2 * 4", x.hold(1, 9), 1);
        Check.due("hold(0, 0)", x.hold(0, 0), 1);
        Check.due("hold(1, 2)", x.hold(1, 2), 1);
        Check.due("hold(0, 1), two of three", x.hold(0, 1), 2);
        Check.due("hold(0, 1) again", x.hold(0, 1), -5);
        Check.due("hold(2, 1000)", x.hold(2, 1000), 2);
        Check.due("hold(2, 1001)", x.hold(2, 1001), -2);
        Check.due("hold(2, -1)", x.hold(2, -1), -2);
        Check.due("hold(3, 1)", x.hold(3, 1), -1);
        Check.due("hold(3, 1001)", x.hold(3, 1001), -1);
        Check.due("hold(-1, 1)", x.hold(-1, 1), -1);
        Check.due("classTold(2, 3)", x.classTold(2, 3), 1000);
        Check.due("hold(1, 3)", x.hold(1, 3), 99);
        x.want(2, 99);
        x.setParent(0, 2);
        Check.due("hold(2, 98), too few for the want", x.hold(2, 98), 52);
        Check.due("hold(2, 0), too few for the child", x.hold(2, 0), 42);
        Check.due("undo()", x.undo(), 3);
        Check.due("classTold(2, 3)", x.classTold(2, 3), 98);
        x = Make.classes(8);
        x.want(7, 5);
        Check.due("hold(7, 4)", x.hold(7, 4), 57);
        x.setParent(6, 7);
        Check.due("hold(6, 5)", x.hold(6, 5), 47);
        Check.due("hold(7, 5)", x.hold(7, 5), 99);
        x = Make.diagram(2, "0:0..*-1:20..*");
        Check.due("hold(0, 1000)", x.hold(0, 1000), 0);
        Check.due("hold(1, 19)", x.hold(1, 19), 2);
        Check.due("hold(1, 20)", x.hold(1, 20), 99);
        x = Make.diagram(2, "0:3..*-1:0..*");
        Check.due("hold(1, 7)", x.hold(1, 7), 1);
        Check.due("hold(0, 2)", x.hold(0, 2), 3);
        Check.due("hold(0, 3)", x.hold(0, 3), 99);
    }

    private static void promise10() {
        LeastPopulations x = Make.diagram(4, "0:1..2-1:3..*");
        Check.due("adopt(), nothing wanted", x.adopt(), -5);
        x.want(0, 2);
        x.setParent(0, 2);
        Check.due("adopt()", x.adopt(), 5);
        int[] due = {2, 3, 2, 0};
        for (int which = 0; which < 4; which++) {
            Check.due("classTold(" + which + ", 3)", x.classTold(which, 3), due[which]);
        }
        Check.due("count(4)", x.count(4), 99);
        Check.due("adopt() again", x.adopt(), -5);
        x.hold(3, 1);
        Check.due("adopt(), one held too many", x.adopt(), 5);
        Check.due("classTold(3, 3)", x.classTold(3, 3), 0);
        Check.due("undo()", x.undo(), 3);
        Check.due("classTold(3, 3)", x.classTold(3, 3), 1);
        x.setCounts(0, 0, 0, 0);
        Check.due("adopt(), none", x.adopt(), -4);
        x = Make.classes(1);
        x.hold(0, 5);
        Check.due("adopt() of nothing", x.adopt(), 0);
        Check.due("classTold(0, 3)", x.classTold(0, 3), 0);
        Check.due("adopt() without classes", new LeastPopulations().adopt(), -5);
    }

    private static void keptAre(LeastPopulations x, String name, int from, int... due) {
        for (int index = 0; index < due.length; index++) {
            Check.due(name + ": keeps(" + (from + index) + ")", x.keeps(from + index), due[index]);
        }
    }

    private static void promise25() {
        LeastPopulations x = Make.diagram(3, "0:1..2-1:3..4", "1:2..2-1:1..1");
        keptAre(x, "none", 0, 1, 1, 1, 1, 1, 1, 1, 1, -5, -5);
        Make.hold(x, 3, 2);
        keptAre(x, "three to two", 0, 0, 1, 0, 1, 1, 0, 1, 1, -5);
        Make.hold(x, 1, 5);
        keptAre(x, "one to five", 0, 1, 0, 1, 1, 1, 0);
        Make.hold(x, 0, 1);
        keptAre(x, "none to one", 0, 1, 0, 1, 0, 1, 0, 1, 0);
        Make.hold(x, 1, 0);
        keptAre(x, "one to none", 0, 0, 1, 0, 1, 1, 1, 1, 1);
        x.setParent(0, 2);
        x.setParent(1, 2);
        Make.hold(x, 3, 4, 6);
        x.want(0, 3);
        x.want(1, 5);
        keptAre(x, "classes", 40, 1, 1, 0, -5, -5, -5, -5, -5, -5, -5, 1, 0, 1, -5, -5, -5, -5, -5);
        x.hold(2, 7);
        Check.due("keeps(42)", x.keeps(42), 1);
        Check.due("keeps(58)", x.keeps(58), -2);
        Check.due("keeps(-1)", x.keeps(-1), -2);
        Check.due("keeps(39)", x.keeps(39), -5);
        x = Make.classes(8);
        keptAre(x, "eight", 46, 1, 1, -5, -5, 1, 1, 1, 1, 1, 1, 1, 1, -2);
        x = Make.diagram(1, "0:0..*-0:0..*");
        for (int link = 1; link < 10; link++) {
            x.readLink();
        }
        keptAre(x, "ten links", 36, 1, 1, 1, 1, 1, -5);
    }

    private static void promise26() {
        LeastPopulations x = Make.diagram(2, "0:1..3-1:4..*");
        Make.hold(x, 4, 6);
        String[] due = {"111010", "011101", "101110", "010111"};
        for (int first = 0; first < 4; first++) {
            for (int second = 0; second < 6; second++) {
                Check.due("joined(0, " + first + ", " + second + ")", x.joined(0, first, second), due[first].charAt(second) - '0');
            }
        }
        Check.due("joined(1, 0, 0)", x.joined(1, 0, 0), -1);
        Check.due("joined(-1, 0, 0)", x.joined(-1, 0, 0), -1);
        Check.due("joined(0, 4, 0)", x.joined(0, 4, 0), -1);
        Check.due("joined(0, 0, 6)", x.joined(0, 0, 6), -1);
        Check.due("joined(0, -1, 0)", x.joined(0, -1, 0), -1);
        Check.due("joined(0, 0, -1)", x.joined(0, 0, -1), -1);
        x.hold(1, 5);
        Check.due("joined(0, 0, 0), not kept", x.joined(0, 0, 0), -4);
        Check.due("joined(0, 0, 5), not kept, not there", x.joined(0, 0, 5), -1);
        x.hold(1, 9);
        Check.due("joined(0, 0, 8)", x.joined(0, 0, 8), 1);
        x.want(0, 5);
        Check.due("joined(0, 0, 8), other rules are free", x.joined(0, 0, 8), 1);
        x.hold(1, 0);
        Check.due("joined(0, 0, 0), none there", x.joined(0, 0, 0), -1);
        x.setCounts(0, 1, 0, 99);
        Check.due("joined(0, 0, 0), none there", x.joined(0, 0, 0), -1);
        x.setCounts(0, 0, 0, 2);
        x.hold(1, 3);
        Check.due("joined(0, 0, 0), no pairs", x.joined(0, 0, 0), 0);
    }

    /** Each rule of a link can be the one that is not kept, and the rules of other links do not count. */
    private static void rulesOfLinks() {
        LeastPopulations x = Make.diagram(2, "0:0..*-1:0..*", "0:0..*-1:0..*", "0:0..*-1:0..*");
        int[][] faults = {{2, 2, 0, 1, 2, 99}, {2, 2, 2, 99, 0, 1}, {2, 2, 0, 99, 3, 99}, {2, 2, 3, 99, 0, 99}};
        for (int link = 0; link < 3; link++) {
            for (int rule = 0; rule < 4; rule++) {
                int[] fault = faults[rule];
                Make.hold(x, fault[0], fault[1]);
                x.setCounts(link, 0, fault[2], fault[3]);
                x.setCounts(link, 1, fault[4], fault[5]);
                String told = "link " + link + ", rule " + rule + ": ";
                for (int other = 0; other < 3; other++) {
                    int due = other == link ? -4 : 0;
                    Check.due(told + "joined(" + other + ", 1, 0)", x.joined(other, 1, 0), due);
                    Check.due(told + "degree(" + other + ", 0, 1)", x.degree(other, 0, 1), due);
                    float average = other == link ? Float.NaN : 0.0f;
                    Check.dueFloat(told + "average(" + other + ", 0)", x.average(other, 0), average);
                }
                Check.due(told + "count(4)", x.count(4), 4 * link + rule);
            }
            x.setCounts(link, 0, 0, 99);
            x.setCounts(link, 1, 0, 99);
        }
    }

    private static void promise27() {
        LeastPopulations x = Make.diagram(3, "0:2..*-1:1..9", "1:0..*-2:0..*");
        Make.hold(x, 5, 7);
        int[] firsts = {3, 3, 3, 3, 2};
        for (int object = 0; object < 5; object++) {
            Check.due("degree(0, 0, " + object + ")", x.degree(0, 0, object), firsts[object]);
        }
        for (int object = 0; object < 7; object++) {
            Check.due("degree(0, 1, " + object + ")", x.degree(0, 1, object), 2);
            Check.due("degree(1, 0, " + object + ")", x.degree(1, 0, object), 0);
        }
        Check.due("degree(2, 0, 0)", x.degree(2, 0, 0), -1);
        Check.due("degree(-1, 0, 0)", x.degree(-1, 0, 0), -1);
        Check.due("degree(0, 2, 0)", x.degree(0, 2, 0), -1);
        Check.due("degree(0, -1, 0)", x.degree(0, -1, 0), -1);
        Check.due("degree(0, 0, 5)", x.degree(0, 0, 5), -1);
        Check.due("degree(0, 1, 7)", x.degree(0, 1, 7), -1);
        Check.due("degree(0, 1, -1)", x.degree(0, 1, -1), -1);
        Check.due("degree(1, 1, 0), none there", x.degree(1, 1, 0), -1);
        x.hold(0, 1);
        Check.due("degree(0, 0, 0), not kept", x.degree(0, 0, 0), -4);
        Check.due("degree(0, 1, 6), not kept", x.degree(0, 1, 6), -4);
        Check.due("degree(0, 0, 1), not kept, not there", x.degree(0, 0, 1), -1);
        x.hold(0, 0);
        x.setCounts(0, 0, 0, 99);
        Check.due("degree(0, 1, 0), none at the other end", x.degree(0, 1, 0), 0);
        x = Make.diagram(1, "0:1..2-0:2..2");
        x.hold(0, 3);
        Check.due("degree(0, 0, 2), with itself", x.degree(0, 0, 2), 2);
        Check.due("degree(0, 1, 2), with itself", x.degree(0, 1, 2), 2);
    }

    private static void promise28() {
        LeastPopulations x = Make.diagram(2, "0:2..*-1:1..9");
        Check.dueFloat("average(0, 0) of none", x.average(0, 0), 0.0f);
        Make.hold(x, 5, 7);
        Check.dueFloat("average(0, 0)", x.average(0, 0), 14.0f / 5.0f);
        Check.dueFloat("average(0, 1)", x.average(0, 1), 2.0f);
        x.setCounts(0, 1, 3, 9);
        Check.dueFloat("average(0, 1)", x.average(0, 1), 15.0f / 7.0f);
        Check.dueFloat("average(0, 2)", x.average(0, 2), Float.NaN);
        Check.dueFloat("average(0, -1)", x.average(0, -1), Float.NaN);
        Check.dueFloat("average(1, 0)", x.average(1, 0), Float.NaN);
        Check.dueFloat("average(-1, 0)", x.average(-1, 0), Float.NaN);
        x.hold(1, 2);
        Check.dueFloat("average(0, 0), not kept", x.average(0, 0), Float.NaN);
        x.hold(1, 0);
        Check.dueFloat("average(0, 1), not kept, none there", x.average(0, 1), Float.NaN);
        x.setCounts(0, 1, 0, 9);
        Check.dueFloat("average(0, 0), no pairs", x.average(0, 0), 0.0f);
        Check.dueFloat("average(0, 1), none there", x.average(0, 1), 0.0f);
        x.want(1, 5);
        Check.dueFloat("average(0, 0), other rules are free", x.average(0, 0), 0.0f);
    }

    private static void promise29() {
        LeastPopulations x = Make.classes(3);
        Check.dueFloat("cost() of none", x.cost(), 0.0f);
        x.setSize(0, Float.floatToRawIntBits(0.1f));
        x.setSize(1, Float.floatToRawIntBits(0.7f));
        x.setSize(2, Float.floatToRawIntBits(999.99994f));
        Make.hold(x, 3, 7, 999);
        float first = 0.1f * 3.0f;
        float second = 0.7f * 7.0f;
        float third = 999.99994f * 999.0f;
        Check.dueFloat("cost()", x.cost(), first + second + third);
        Make.hold(x, 777, 333, 0);
        first = 0.1f * 777.0f;
        second = 0.7f * 333.0f;
        Check.dueFloat("cost()", x.cost(), first + second);
        x.setParent(0, 1);
        Check.dueFloat("cost(), classes within classes too", x.cost(), first + second);
        x = Make.classes(8);
        float sum = 0.0f;
        for (int which = 0; which < 8; which++) {
            float size = (which * 37 % 11 + 1) / 7.0f;
            x.setSize(which, Float.floatToRawIntBits(size));
            x.hold(which, 101 * which + 1);
            float product = size * (float) (101 * which + 1);
            sum = sum + product;
        }
        Check.dueFloat("cost() of eight", x.cost(), sum);
        x = Make.classes(1);
        x.setSize(0, 1);
        x.hold(0, 3);
        Check.dueFloat("cost() of the smallest", x.cost(), Float.intBitsToFloat(3));
        largestCost();
        eachOperationIsRounded();
    }

    private static void largestCost() {
        LeastPopulations x = Make.classes(8);
        for (int which = 0; which < 8; which++) {
            x.setSize(which, 0x447A0000);
            x.hold(which, 1000);
        }
        Check.dueFloat("cost() of the largest", x.cost(), 8000000.0f);
        Check.dueFloat("share(7) of the largest", x.share(7), 0.125f);
        x.setSize(7, 1);
        Check.dueFloat("cost(), the smallest is lost", x.cost(), 7000000.0f);
        Check.dueFloat("share(7), it is lost", x.share(7), 0.0f);
    }

    /** With doubles, with products that are not rounded, or in another order, the last bits differ. */
    private static void eachOperationIsRounded() {
        LeastPopulations x = Make.classes(4);
        float[] sizes = {655.1f, 623.7f, 35.61f, 6.528f};
        for (int which = 0; which < 4; which++) {
            x.setSize(which, Float.floatToRawIntBits(sizes[which]));
        }
        Make.hold(x, 860, 631, 927, 622);
        Check.dueFloat("cost(), rounded", x.cost(), Float.intBitsToFloat(1232252347));
        Check.dueFloat("share(0), rounded", x.share(0), Float.intBitsToFloat(1058084991));
        Check.dueFloat("share(1), rounded", x.share(1), Float.intBitsToFloat(1053472452));
        Check.dueFloat("share(2), rounded", x.share(2), Float.intBitsToFloat(1023936131));
    }

    private static void promise30() {
        LeastPopulations x = Make.classes(2);
        Check.dueFloat("share(0) of nothing", x.share(0), 0.0f);
        Check.dueFloat("share(2) of nothing", x.share(2), Float.NaN);
        Make.hold(x, 1, 2);
        Check.dueFloat("share(0)", x.share(0), 1.0f / 3.0f);
        Check.dueFloat("share(1)", x.share(1), 2.0f / 3.0f);
        x.setSize(0, Float.floatToRawIntBits(0.1f));
        Make.hold(x, 7, 3);
        float part = 0.1f * 7.0f;
        Check.dueFloat("share(0)", x.share(0), part / (part + 3.0f));
        Check.dueFloat("share(-1)", x.share(-1), Float.NaN);
        Check.dueFloat("share(2)", x.share(2), Float.NaN);
        x.setSize(0, 0);
        x.hold(1, 0);
        Check.dueFloat("share(0), no cost", x.share(0), 0.0f);
        x.hold(1, 3);
        Check.dueFloat("share(0), no size", x.share(0), 0.0f);
        Check.dueFloat("share(1)", x.share(1), 1.0f);
    }
}
