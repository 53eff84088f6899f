/** Promises 13 to 15: undo, the snapshot, and which calls are acts. */
public final class HistoryTest {
    public static void main(String[] args) {
        promise13();
        promise14();
        promise15();
        roundAndRound();
        oneSnapshot();
        whatIsGone();
        whatIsNoAct();
        whatIsRestored();
        Check.end("HistoryTest");
    }

    private static void promise13() {
        LeastPopulations x = new LeastPopulations();
        Check.due("undo() of nothing", x.undo(), -5);
        for (int which = 0; which < 6; which++) {
            x.addClass();
            Check.due("count(7)", x.count(7), Math.min(4, which + 1));
        }
        for (int left = 3; left >= 0; left--) {
            Check.due("undo()", x.undo(), left);
            Check.due("count(0)", x.count(0), left + 2);
        }
        Check.due("undo(), the oldest ones are dropped", x.undo(), -5);
        Check.due("count(0)", x.count(0), 2);
        x.addClass();
        x.undo();
        x.want(0, 5);
        x.want(0, 6);
        Check.due("undo()", x.undo(), 1);
        Check.due("classTold(0, 1)", x.classTold(0, 1), 5);
        Check.due("undo()", x.undo(), 0);
        Check.due("classTold(0, 1)", x.classTold(0, 1), 0);
        Check.due("undo()", x.undo(), -5);
    }

    private static void promise14() {
        LeastPopulations x = new LeastPopulations();
        Check.due("keep() of nothing", x.keep(), 0);
        Check.due("count(7), no act", x.count(7), 0);
        x.addClass();
        x.addClass();
        Check.due("keep()", x.keep(), 2);
        x.addClass();
        Check.due("restore()", x.restore(), 2);
        x.undo();
        Check.due("keep(), in place of the one before", x.keep(), 3);
        x.undo();
        Check.due("restore(), after undo()", x.restore(), 3);
    }

    private static void promise15() {
        LeastPopulations x = Make.classes(1);
        Check.due("restore() without a snapshot", x.restore(), -5);
        Check.due("count(7)", x.count(7), 1);
        x.keep();
        Check.due("restore() of what is", x.restore(), 1);
        Check.due("count(7), an act", x.count(7), 2);
        x.addClass();
        x.want(0, 4);
        Check.due("restore()", x.restore(), 1);
        Check.due("classTold(0, 1)", x.classTold(0, 1), 0);
        x.want(0, 9);
        Check.due("restore(), it stays", x.restore(), 1);
        Check.due("classTold(0, 1)", x.classTold(0, 1), 0);
        Check.due("undo()", x.undo(), 3);
        Check.due("classTold(0, 1)", x.classTold(0, 1), 9);
        Check.due("least(0)", x.least(0), 9);
        x = new LeastPopulations();
        x.keep();
        x.addClass();
        Check.due("restore() of no classes", x.restore(), 0);
        Check.due("count(0)", x.count(0), 0);
    }

    /** A history of at most 4 states: of many acts just the latest four come back, the latest one first. */
    private static void roundAndRound() {
        for (int acts = 0; acts < 15; acts++) {
            LeastPopulations x = Make.classes(1);
            for (int wanted = 1; wanted <= acts; wanted++) {
                Check.due("want(0, " + wanted + ")", x.want(0, wanted), wanted - 1);
            }
            int kept = Math.min(4, acts + 1);
            Check.due("count(7)", x.count(7), kept);
            for (int back = 1; back <= Math.min(4, acts); back++) {
                Check.due("undo()", x.undo(), kept - back);
                Check.due("classTold(0, 1)", x.classTold(0, 1), acts - back);
            }
            if (acts < 4) {
                Check.due("undo() of addClass()", x.undo(), 0);
                Check.due("count(0)", x.count(0), 0);
            }
            Check.due("undo() of nothing", x.undo(), -5);
            for (int wanted = 50; wanted < 53 && acts > 3; wanted++) {
                x.want(0, wanted);
            }
            Check.due("count(7), filled again", x.count(7), acts > 3 ? 3 : 0);
        }
    }

    /** There is one snapshot, empty at first, and it is no part of a state or of the history. */
    private static void oneSnapshot() {
        LeastPopulations x = new LeastPopulations();
        Check.due("restore(), empty at first", x.restore(), -5);
        x.addClass();
        x.keep();
        Check.due("undo(), behind keep()", x.undo(), 0);
        Check.due("restore(), the snapshot is no state", x.restore(), 1);
        x.addClass();
        x.addClass();
        x.keep();
        x.restore();
        x.undo();
        x.undo();
        Check.due("restore(), the latest one", x.restore(), 3);
        for (int which = 0; which < 5; which++) {
            x.want(0, which + 1);
        }
        Check.due("restore(), longer ago than the history", x.restore(), 3);
        Check.due("classTold(0, 1)", x.classTold(0, 1), 0);
        Check.due("undo() of restore()", x.undo(), 3);
        Check.due("classTold(0, 1)", x.classTold(0, 1), 5);
        Check.due("restore(), not of what was undone", x.restore(), 3);
    }

    /** Classes and links that were taken back are not counted, not summed up, and keep no rule. */
    private static void whatIsGone() {
        LeastPopulations x = Make.classes(1);
        x.want(0, 2);
        x.keep();
        x.addClass();
        Make.read(x, "0:0..1-1:2..*");
        x.setCounts(0, 0, 0, 0);
        x.setParent(0, 1);
        x.hold(1, 7);
        x.want(1, 9);
        Check.due("least(0), all there", x.least(0), -4);
        x.restore();
        int[] counts = {1, 0, 2, 0, 50, 0, 0, 4, 13};
        for (int what = 0; what < counts.length; what++) {
            Check.due("gone: count(" + what + ")", x.count(what), counts[what]);
        }
        Check.due("gone: least(0)", x.least(0), 2);
        Check.due("gone: repair(0)", x.repair(0), -4);
        Check.due("gone: classTold(0, 0)", x.classTold(0, 0), -5);
        Check.due("gone: classTold(0, 4)", x.classTold(0, 4), 0);
        Check.due("gone: keeps(0)", x.keeps(0), -5);
        Check.due("gone: keeps(41)", x.keeps(41), -5);
        Check.due("gone: keeps(51)", x.keeps(51), -5);
        Check.dueFloat("gone: cost()", x.cost(), 0.0f);
        Check.due("gone: adopt()", x.adopt(), 2);
        Check.due("gone: adopt() again", x.adopt(), -5);
        x.undo();
        x.undo();
        Check.due("there again: classTold(1, 1)", x.classTold(1, 1), 9);
        Check.due("there again: least(1)", x.least(1), -4);
    }

    /** What answers an error or NONE, and what only tells, leaves the history as it is. */
    private static void whatIsNoAct() {
        LeastPopulations x = Make.classes(1);
        x.setParent(0, 0);
        x.setParent(0, 8);
        x.want(0, 0);
        x.want(0, 100);
        x.setSize(0, 0x3F800000);
        x.setSize(0, -1);
        x.readLink();
        x.setCounts(0, 0, 0, 0);
        x.removeLink(0);
        x.hold(0, 0);
        x.hold(0, 1001);
        x.adopt();
        x.restore();
        x.keep();
        x.type('0');
        x.clearText();
        x.oneMore(0);
        x.isForced(0);
        x.isIdle(0, 0, true);
        x.repair(0);
        x.count(3);
        x.count(5);
        Check.due("count(7), no acts", x.count(7), 1);
        Check.due("undo(), and no act itself", x.undo(), 0);
        Check.due("undo() of nothing", x.undo(), -5);
        for (int act = 0; act < 10; act++) {
            isAct(act);
        }
    }

    /** On a diagram with two classes and a link, that one act has made. */
    private static void isAct(int act) {
        LeastPopulations x = Make.diagram(2, "0:1..1-1:1..1");
        x.keep();
        for (int left = 3; left > 0; left--) {
            x.undo();
        }
        x.restore();
        Check.due("act " + act + ": made ready", x.count(7), 1);
        int answer = doAct(x, act);
        Check.due("act " + act + " answered no error", answer >= 0 ? 1 : 0, 1);
        Check.due("act " + act + ": count(7)", x.count(7), 2);
        Check.due("act " + act + ": undo()", x.undo(), 1);
        Check.due("act " + act + ": undo()", x.undo(), 0);
        Check.due("act " + act + ": all is undone", x.count(0), 0);
    }

    private static int doAct(LeastPopulations x, int act) {
        switch (act) {
            case 0:
                return x.addClass();
            case 1:
                return x.setParent(0, 1);
            case 2:
                return x.want(0, 1);
            case 3:
                return x.setSize(0, 0);
            case 4:
                return x.readLink();
            case 5:
                return x.setCounts(0, 0, 0, 0);
            case 6:
                return x.removeLink(0);
            case 7:
                return x.hold(0, 1);
            case 8:
                return x.restore();
            default:
                return adoptAfterHold(x);
        }
    }

    /** adopt() needs other populations held; the snapshot brings them, so that one act is still all. */
    private static int adoptAfterHold(LeastPopulations x) {
        x.hold(0, 1);
        x.keep();
        x.undo();
        x.undo();
        x.restore();
        return x.adopt();
    }

    /** A state is everything but the text: each part of it comes back, by undo() and restore(). */
    private static void whatIsRestored() {
        for (int way = 0; way < 2; way++) {
            LeastPopulations x = Make.diagram(3, "0:1..1-1:1..1", "1:2..2-2:2..2");
            x.setParent(2, 1);
            x.want(0, 3);
            x.setSize(1, 0x40000000);
            x.hold(2, 7);
            x.keep();
            back(x, x.setParent(2, 8), way);
            back(x, x.want(0, 4), way);
            back(x, x.setSize(1, 0x40400000), way);
            back(x, x.hold(2, 8), way);
            back(x, x.setCounts(1, 1, 0, 5), way);
            back(x, x.removeLink(0), way);
            back(x, x.readLink(), way);
            back(x, x.addClass(), way);
            x.clearText();
            back(x, x.hold(0, 1), way);
            Check.due("the text is no part of it", x.count(8), 0);
        }
    }

    private static void back(LeastPopulations x, int answer, int way) {
        Check.due("the act answered no error", answer >= 0 ? 1 : 0, 1);
        if (way == 0) {
            x.undo();
        } else {
            x.restore();
        }
        int[] told = {x.count(0), x.count(1), x.classTold(2, 0), x.classTold(0, 1), x.classTold(2, 3),
            x.classTold(0, 3), x.link(0, 2), x.link(0, 1), x.link(1, 2), x.link(1, 4), x.link(1, 5), x.least(1)};
        int[] due = {3, 2, 1, 3, 7, 0, 1, 1, 2, 2, 2, 3};
        for (int index = 0; index < due.length; index++) {
            Check.due("what came back, " + index, told[index], due[index]);
        }
        Check.dueFloat("what came back, size(1)", x.size(1), 2.0f);
    }
}
