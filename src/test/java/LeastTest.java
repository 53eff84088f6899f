/** Promises 19 to 24: least populations, and what depends on them. */
public final class LeastTest {
    public static void main(String[] args) {
        promise19();
        promise20();
        promise21();
        promise22();
        promise23();
        promise24();
        afterChanges();
        afterNone();
        Check.end("LeastTest");
    }

    private static void leastsAre(LeastPopulations x, String name, int... due) {
        for (int which = 0; which < due.length; which++) {
            Check.due(name + ": least(" + which + ")", x.least(which), due[which]);
        }
    }

    private static void promise19() {
        LeastPopulations x = Make.diagram(2, "0:1..2-1:3..*");
        leastsAre(x, "nothing wanted", 0, 0);
        Check.due("least(2)", x.least(2), -1);
        Check.due("least(-1)", x.least(-1), -1);
        x.want(0, 1);
        leastsAre(x, "at least three", 1, 3);
        x.want(0, 9);
        leastsAre(x, "27 ends at two a piece", 9, 14);
        x.want(1, 50);
        leastsAre(x, "more wanted", 9, 50);
        x.setCounts(0, 1, 3, 4);
        leastsAre(x, "four at most for 50", 13, 50);
        x.setCounts(0, 0, 20, 20);
        leastsAre(x, "twenty each", 250, 50);
        x.setCounts(0, 0, 20, 99);
        leastsAre(x, "no limit", 250, 50);
        limits();
        families();
        alone();
        slowly();
    }

    /** Up to 1000, and no more. */
    private static void limits() {
        LeastPopulations x = Make.diagram(3, "0:0..1-1:10..*", "1:0..1-2:1..*");
        x.want(0, 99);
        leastsAre(x, "990", 99, 990, 990);
        x = Make.diagram(3, "0:0..1-1:20..*", "1:0..1-2:2..*");
        x.want(0, 25);
        leastsAre(x, "exactly 1000", 25, 500, 1000);
        x.want(0, 26);
        leastsAre(x, "1040", -4, -4, -4);
        Check.due("count(2), none", x.count(2), -5);
        Check.due("adopt(), none", x.adopt(), -4);
        Check.due("why(0), none", x.why(0), -4);
        x = Make.diagram(2, "0:0..0-1:1..*");
        x.want(1, 5);
        leastsAre(x, "nothing to join", 0, 5);
        x.want(0, 1);
        leastsAre(x, "no number of b is enough", -4, -4);
        x = Make.diagram(2, "0:0..0-1:0..*");
        x.want(0, 1);
        leastsAre(x, "none needed", 1, 0);
        x = Make.diagram(1, "0:0..19-0:20..20");
        x.want(0, 1);
        leastsAre(x, "grows slowly without end", -4);
        x = Make.diagram(3, "0:0..17-1:18..*", "1:0..18-2:17..*", "2:0..*-0:1..1");
        x.want(0, 1);
        leastsAre(x, "a ring that closes", 1, 18, 17);
    }

    private static void families() {
        LeastPopulations x = Make.classes(5);
        x.setParent(1, 0);
        x.setParent(2, 0);
        x.setParent(3, 2);
        x.want(1, 4);
        x.want(3, 5);
        leastsAre(x, "a sum above", 9, 4, 5, 5, 0);
        x.want(0, 20);
        leastsAre(x, "wanted above", 20, 4, 5, 5, 0);
        Check.due("count(2)", x.count(2), 20);
        x.want(4, 3);
        Check.due("count(2)", x.count(2), 23);
        Make.read(x, "0:0..1-4:1..1");
        leastsAre(x, "a link above", 20, 4, 5, 5, 20);
        Make.read(x, "4:0..*-1:0..2");
        x.setCounts(1, 0, 1, 99);
        leastsAre(x, "nothing more", 20, 4, 5, 5, 20);
        x = Make.classes(8);
        for (int which = 1; which < 8; which++) {
            x.setParent(which, 0);
            x.want(which, 99);
        }
        Check.due("693 objects", x.least(0), 693);
        Make.read(x, "1:0..1-2:4..*");
        Check.due("990 objects", x.least(0), 990);
        x.setCounts(0, 1, 5, 99);
        Check.due("1089 objects", x.least(0), -4);
        eachAsParent();
    }

    /** Each class can be the parent of all others, and the rule that asks is its own. */
    private static void eachAsParent() {
        for (int parent = 0; parent < 8; parent++) {
            LeastPopulations x = Make.classes(8);
            for (int which = 0; which < 8; which++) {
                x.setParent(which, parent);
                x.want(which, 10 + which);
            }
            x.want(parent, 0);
            Check.due("least(" + parent + "), of seven", x.least(parent), 108 - 10 - parent);
            Check.due("why(" + parent + "), of seven", x.why(parent), 40 + parent);
            Check.due("oneMore, inside", x.oneMore(parent), 0);
            Check.due("oneMore, of a child", x.oneMore(7 - parent), 1);
        }
    }

    /** A link of a class with itself asks for as many as there are partners of as many as there are. */
    private static void alone() {
        LeastPopulations x = Make.diagram(1, "0:0..*-0:7..*");
        leastsAre(x, "nothing wanted", 0);
        x.want(0, 1);
        leastsAre(x, "seven partners", 7);
        x.setCounts(0, 0, 7, 7);
        leastsAre(x, "seven on both sides", 7);
        x.setCounts(0, 0, 0, 6);
        leastsAre(x, "six for seven", -4);
    }

    /** By one object at a time, round and round through six classes, and to an end below 1000. */
    private static void slowly() {
        LeastPopulations x = Make.diagram(7, "2:15..*-0:20..20", "5:18..18-1:14..19", "6:20..20-0:8..19", "0:1..14-3:1..20");
        int[] parents = {8, 8, 1, 2, 3, 4, 3};
        for (int which = 0; which < 7; which++) {
            x.setParent(which, parents[which]);
        }
        x.want(1, 3);
        leastsAre(x, "slowly", 38, 760, 760, 760, 720, 720, 40);
    }

    private static void promise20() {
        LeastPopulations x = Make.diagram(5, "0:0..2-1:3..*", "2:1..*-1:0..2");
        x.setParent(0, 3);
        Check.due("why(0), none there", x.why(0), -5);
        x.want(0, 1);
        Check.due("why(0), wanted", x.why(0), 50);
        Check.due("why(1), at least three", x.why(1), 2);
        Check.due("why(2), 3 ends at two a piece", x.why(2), 5);
        Check.due("why(3), its child", x.why(3), 43);
        Check.due("why(4), none there", x.why(4), -5);
        x.want(0, 4);
        Check.due("why(1), 12 ends at two a piece", x.why(1), 0);
        x.want(1, 6);
        Check.due("why(1), the link comes first", x.why(1), 0);
        x.want(3, 4);
        Check.due("why(3), the child comes first", x.why(3), 43);
        x.want(3, 5);
        Check.due("why(3), wanted", x.why(3), 53);
        Check.due("why(5)", x.why(5), -1);
        Check.due("why(-1)", x.why(-1), -1);
        x.setCounts(0, 0, 0, 0);
        Check.due("why(0), no leasts", x.why(0), -4);
        Check.due("why(4), no leasts", x.why(4), -4);
        x = Make.diagram(2, "0:0..*-1:1..*");
        x.want(0, 9);
        Check.due("why(1), no limit asks for one", x.why(1), 0);
        x.setCounts(0, 1, 2, 99);
        Check.due("why(1), at least two", x.why(1), 2);
        x = Make.diagram(2, "0:3..*-1:0..*");
        x.want(1, 9);
        Check.due("why(0), at least three", x.why(0), 3);
        x.setCounts(0, 0, 1, 99);
        Check.due("why(0), no limit asks for one", x.why(0), 1);
        x = Make.diagram(3, "0:0..*-1:0..*", "2:7..*-1:0..*");
        x.want(1, 2);
        Check.due("why(2), at least seven", x.why(2), 7);
        Check.due("least(2), at least seven", x.least(2), 7);
        x = Make.classes(8);
        x.want(7, 3);
        Check.due("why(7)", x.why(7), 57);
        x.setParent(6, 7);
        x.want(6, 3);
        Check.due("why(7), its child", x.why(7), 47);
        x = Make.diagram(2, "0:0..1-0:0..1", "0:1..1-1:1..1");
        x.want(0, 2);
        Check.due("why(1), the second link", x.why(1), 4);
        Check.due("why(0), the second link", x.why(0), 5);
    }

    private static void promise21() {
        LeastPopulations x = Make.diagram(4, "0:0..1-0:2..*", "0:1..*-1:0..*", "2:0..*-3:0..*");
        x.setParent(1, 3);
        Check.due("isForced(0)", x.isForced(0), 1);
        Check.due("isForced(1), needs one of 0", x.isForced(1), 1);
        Check.due("isForced(2)", x.isForced(2), 0);
        Check.due("isForced(3)", x.isForced(3), 0);
        Check.due("count(3)", x.count(3), 2);
        x.setCounts(0, 0, 0, 2);
        Check.due("isForced(0), now two", x.isForced(0), 0);
        Check.due("isForced(4)", x.isForced(4), -1);
        Check.due("isForced(-1)", x.isForced(-1), -1);
        x = Make.diagram(3, "0:0..1-1:20..*", "1:0..1-2:20..*");
        x.want(0, 3);
        Check.due("least(0), too many wanted", x.least(0), -4);
        Check.due("isForced(0), but one can be", x.isForced(0), 0);
        Check.due("isForced(2)", x.isForced(2), 0);
        Check.due("count(3)", x.count(3), 0);
        x = Make.diagram(2, "0:0..0-0:1..*");
        x.setParent(0, 1);
        x.want(1, 5);
        Check.due("isForced(0), no most", x.isForced(0), 1);
        Check.due("isForced(1), its parent", x.isForced(1), 0);
        x = Make.diagram(4, "0:0..1-1:20..*", "1:0..1-2:20..*", "2:0..1-3:2..*");
        Check.due("isForced(0), one but not two", x.isForced(0), 0);
        Check.due("count(3)", x.count(3), 0);
        x.setCounts(2, 1, 3, 99);
        Check.due("isForced(0), not one", x.isForced(0), 1);
        Check.due("isForced(1)", x.isForced(1), 0);
        Check.due("count(3)", x.count(3), 1);
    }

    private static void promise22() {
        LeastPopulations x = Make.diagram(4, "0:0..2-1:3..*");
        x.setParent(2, 3);
        Check.due("oneMore(0), from nothing", x.oneMore(0), 4);
        Check.due("oneMore(1)", x.oneMore(1), 1);
        Check.due("oneMore(2), with its parent", x.oneMore(2), 1);
        x.want(3, 5);
        Check.due("oneMore(2), inside its parent", x.oneMore(2), 0);
        Check.due("oneMore(3)", x.oneMore(3), 1);
        x.want(0, 1);
        Check.due("oneMore(0), there are three", x.oneMore(0), 1);
        x.want(0, 2);
        Check.due("oneMore(0), five for nine ends", x.oneMore(0), 3);
        Check.due("oneMore(1), there are three", x.oneMore(1), 0);
        x.want(3, 99);
        Check.due("oneMore(3), a hundred", x.oneMore(3), 1);
        Check.due("oneMore(4)", x.oneMore(4), -1);
        Check.due("oneMore(-1)", x.oneMore(-1), -1);
        Check.due("the wanted number stays", x.classTold(3, 1), 99);
        Check.due("the leasts stay", x.least(3), 99);
        x.setCounts(0, 0, 0, 0);
        Check.due("oneMore(0), there are none", x.oneMore(0), -4);
        Check.due("oneMore(2), there are none", x.oneMore(2), -4);
        x.want(0, 0);
        Check.due("oneMore(0), there would be none", x.oneMore(0), -4);
        Check.due("oneMore(1)", x.oneMore(1), 1);
    }

    private static void promise23() {
        LeastPopulations x = Make.diagram(2, "0:1..2-1:3..4");
        idle(x, "nothing wanted", 0, 15);
        x.want(0, 1);
        idle(x, "at least three are asked", 0, 11);
        x.want(0, 9);
        idle(x, "14 for 27 ends", 0, 9);
        x.want(1, 18);
        idle(x, "18 wanted", 0, 15);
        x.want(1, 40);
        idle(x, "40 for four a piece", 0, 6);
        x.setCounts(0, 1, 3, 99);
        idle(x, "no limit", 0, 15);
        Check.due("isIdle(1, 0, false)", x.isIdle(1, 0, false), -1);
        Check.due("isIdle(-1, 0, true)", x.isIdle(-1, 0, true), -1);
        Check.due("isIdle(0, 2, false)", x.isIdle(0, 2, false), -1);
        Check.due("isIdle(0, -1, true)", x.isIdle(0, -1, true), -1);
        Check.due("the counts stay", x.link(0, 4), 3);
        withoutLeasts();
        supported();
    }

    /** The idle counts of a link, as bits: its least count at the first end, its most one, and so on. */
    private static void idle(LeastPopulations x, String name, int link, int bits) {
        int idle = 0;
        for (int count = 0; count < 4; count++) {
            int answer = x.isIdle(link, count / 2, count % 2 == 1);
            Check.due(name + ": isIdle, count " + count, answer, bits >> count & 1);
            idle += bits >> count & 1;
        }
        if (x.count(1) == 1) {
            Check.due(name + ": count(5)", x.count(5), idle);
        }
    }

    private static void withoutLeasts() {
        LeastPopulations x = Make.diagram(2, "0:0..1-0:2..*", "1:0..1-1:2..*");
        x.want(0, 1);
        idle(x, "one fault, its own counts", 0, 9);
        idle(x, "one fault, others", 1, 15);
        Check.due("count(5)", x.count(5), 6);
        x.want(1, 1);
        idle(x, "two faults", 0, 15);
        idle(x, "two faults", 1, 15);
        Check.due("count(5)", x.count(5), 8);
    }

    /** Two counts that ask for the same: neither is needed, while the other one is there. */
    private static void supported() {
        LeastPopulations x = Make.diagram(2, "0:0..*-1:3..*", "0:0..*-1:3..*");
        x.want(0, 1);
        idle(x, "the first of two", 0, 15);
        idle(x, "the second of two", 1, 15);
        x.setCounts(1, 1, 2, 99);
        idle(x, "the greater one", 0, 11);
        idle(x, "the smaller one", 1, 15);
        x.setCounts(1, 1, 4, 99);
        idle(x, "the smaller one", 0, 15);
        idle(x, "the greater one", 1, 11);
        x = Make.diagram(2, "0:1..1-1:1..1");
        x.want(0, 4);
        idle(x, "one to one: only from the first", 0, 9);
        x.want(1, 4);
        idle(x, "both wanted", 0, 15);
    }

    private static void promise24() {
        LeastPopulations x = Make.diagram(2, "0:0..1-1:0..*", "0:0..1-0:2..3", "1:2..3-1:0..1");
        Check.due("repair(0), there are leasts", x.repair(0), -4);
        Check.due("repair(-1), there are leasts", x.repair(-1), -2);
        x.want(0, 1);
        repairs(x, "one fault", 5, 6);
        x.want(1, 1);
        repairs(x, "two faults");
        x.want(0, 0);
        repairs(x, "the other fault", 8, 11);
        x.setCounts(2, 0, 0, 3);
        Check.due("repair(0), mended", x.repair(0), -4);
        x = Make.diagram(3, "0:0..1-1:20..*", "1:0..1-2:20..*");
        x.want(0, 3);
        repairs(x, "any of four", 1, 2, 5, 6);
        Check.due("the counts stay", x.link(1, 3), 1);
        Check.due("no leasts still", x.least(0), -4);
        x = Make.diagram(1, "0:0..*-0:20..*", "0:1..1-0:2..2");
        x.want(0, 1);
        repairs(x, "two ends of a link", 5, 6);
        x = Make.diagram(2, "0:1..1-1:0..0", "0:0..0-1:1..1");
        x.want(1, 1);
        repairs(x, "a fault behind the fault", 0);
        x.removeLink(1);
        repairs(x, "the first count, and the last one", 0, 3);
        x = Make.diagram(2, "0:0..0-1:1..1");
        x.want(0, 1);
        repairs(x, "the counts between", 1, 2);
        x = Make.classes(2);
        x.want(0, 99);
        Make.read(x, "0:0..1-1:11..*");
        Check.due("repair(0)", x.repair(0), 1);
        Check.due("repair(1)", x.repair(1), 2);
        Check.due("repair(2)", x.repair(2), -5);
        Check.due("repair of a great rank", x.repair(2147483647), -5);
        Check.due("repair(-1), there are none", x.repair(-2147483648), -2);
        x.removeLink(0);
        Check.due("repair(0), no links", x.repair(0), -4);
    }

    private static void repairs(LeastPopulations x, String name, int... due) {
        for (int rank = 0; rank < due.length; rank++) {
            Check.due(name + ": repair(" + rank + ")", x.repair(rank), due[rank]);
        }
        Check.due(name + ": repair, no more", x.repair(due.length), -5);
        Check.due(name + ": repair(-1)", x.repair(-1), -2);
    }

    /** Each act, and undo(), can change the least populations. */
    private static void afterChanges() {
        LeastPopulations x = Make.classes(2);
        Check.due("least(0)", x.least(0), 0);
        x.want(0, 2);
        Check.due("least(0), wanted", x.least(0), 2);
        Make.read(x, "0:0..1-1:2..*");
        Check.due("least(1), read", x.least(1), 4);
        x.setCounts(0, 1, 3, 99);
        Check.due("least(1), counts set", x.least(1), 6);
        x.undo();
        Check.due("least(1), undone", x.least(1), 4);
        x.keep();
        x.removeLink(0);
        Check.due("least(1), removed", x.least(1), 0);
        x.setParent(0, 1);
        Check.due("least(1), a child", x.least(1), 2);
        x.restore();
        Check.due("least(1), restored", x.least(1), 4);
        x.addClass();
        Check.due("least(2), added", x.least(2), 0);
        x.hold(1, 5);
        Check.due("least(1), others held", x.least(1), 4);
        x.oneMore(0);
        x.isForced(0);
        x.isIdle(0, 1, false);
        Check.due("least(1), asked much", x.least(1), 4);
        Check.due("oneMore(0), as before", x.oneMore(0), 3);
    }

    /** What a link asked for, when there were no least populations, is not asked for when it is removed. */
    private static void afterNone() {
        LeastPopulations x = Make.diagram(3, "1:0..*-2:5..*", "0:0..0-1:1..*");
        x.want(0, 1);
        leastsAre(x, "none", -4, -4, -4);
        Check.due("oneMore(0), none", x.oneMore(0), -4);
        Check.due("isForced(0), none", x.isForced(0), 1);
        x.removeLink(1);
        x.removeLink(0);
        x.want(1, 1);
        Check.due("isForced(1), no links", x.isForced(1), 0);
        leastsAre(x, "no links", 1, 1, 0);
        Check.due("oneMore(1), no links", x.oneMore(1), 1);
        Check.due("count(2), no links", x.count(2), 2);
    }
}
