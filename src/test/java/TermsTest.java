/** "Terms", sentence by sentence: classes, links, rules, least populations and joining, at their edges. */
public final class TermsTest {
    private static final int[][] COUNTS = {{0, 0}, {0, 1}, {0, 3}, {0, 19}, {0, 20}, {0, 99}, {1, 1}, {1, 2}, {1, 99},
        {2, 2}, {2, 3}, {2, 99}, {3, 3}, {3, 20}, {19, 20}, {20, 20}, {20, 99}};
    private static final int[] FEW = {0, 1, 2, 3, 4, 5, 6};
    private static final int[] MANY = {0, 1, 19, 20, 21, 999, 1000};

    public static void main(String[] args) {
        atMostEightClasses();
        neverAboveItself();
        atMostTenLinks();
        countsOfLinks();
        rulesOfLinks(FEW);
        rulesOfLinks(MANY);
        rulesOfParents();
        rulesOfWants();
        upToAThousand();
        noSuchNumber();
        leastOfAllThatKeepTheRules();
        forcedToBeEmpty();
        pairs();
        pairsOfThousands();
        oneForAll();
        Check.end("TermsTest");
    }

    /** There are at most 8 classes, numbered from 0: with eight, all is told of each one. */
    private static void atMostEightClasses() {
        LeastPopulations x = Make.diagram(8, "0:1..1-7:2..*", "6:0..0-6:1..1");
        Check.due("addClass(), a ninth one", x.addClass(), -3);
        int[] wants = {10, 11, 12, 13, 14, 15, 0, 17};
        int[] leasts = {10, 11, 12, 13, 14, 15, 0, 20};
        int[] whys = {50, 51, 52, 53, 54, 55, -5, 0};
        int[] more = {3, 1, 1, 1, 1, 1, -4, 0};
        Make.want(x, wants);
        for (int which = 0; which < 8; which++) {
            Check.due("least(" + which + ")", x.least(which), leasts[which]);
            Check.due("why(" + which + ")", x.why(which), whys[which]);
            Check.due("oneMore(" + which + ")", x.oneMore(which), more[which]);
            Check.due("isForced(" + which + ")", x.isForced(which), which == 6 ? 1 : 0);
        }
        Check.due("count(0)", x.count(0), 8);
        Check.due("count(2)", x.count(2), 95);
        Check.due("count(3)", x.count(3), 1);
        Check.due("adopt()", x.adopt(), 95);
        Check.due("count(6)", x.count(6), 95);
        Check.due("adopt() again", x.adopt(), -5);
        Check.dueFloat("cost()", x.cost(), 95.0f);
        Check.dueFloat("share(7)", x.share(7), 20.0f / 95.0f);
        Check.due("hold(7, 0)", x.hold(7, 0), 0);
        Check.due("adopt(), the last one differs", x.adopt(), 95);
    }

    /** A class is never above itself: in a line of eight, each class and each parent. */
    private static void neverAboveItself() {
        LeastPopulations x = Make.classes(8);
        for (int which = 1; which < 8; which++) {
            x.setParent(which, which - 1);
        }
        for (int which = 0; which < 8; which++) {
            for (int parent = 0; parent < 8; parent++) {
                int before = which == 0 ? 8 : which - 1;
                int due = parent >= which ? -4 : parent == before ? -5 : before;
                Check.due("setParent(" + which + ", " + parent + ")", x.setParent(which, parent), due);
                if (due >= 0) {
                    x.undo();
                }
            }
        }
    }

    /** There are at most 10 links, numbered from 0: the last one counts as the others do. */
    private static void atMostTenLinks() {
        LeastPopulations x = Make.diagram(2, "0:0..*-1:0..*");
        for (int link = 1; link < 10; link++) {
            Check.due("readLink()", x.readLink(), link);
        }
        Check.due("readLink(), an eleventh one", x.readLink(), -3);
        Check.due("classTold(1, 4)", x.classTold(1, 4), 10);
        x.setCounts(9, 0, 1, 1);
        x.setCounts(9, 1, 2, 3);
        x.want(0, 3);
        Check.due("least(1)", x.least(1), 6);
        Check.due("why(1)", x.why(1), 36);
        Check.due("isIdle(9, 0, true)", x.isIdle(9, 0, true), 0);
        Check.due("isIdle(9, 1, false)", x.isIdle(9, 1, false), 0);
        Check.due("count(5)", x.count(5), 38);
        Check.due("hold(0, 1)", x.hold(0, 1), 36);
        Check.due("hold(1, 1)", x.hold(1, 1), 36);
        x.setCounts(9, 0, 1, 99);
        Check.due("count(4)", x.count(4), 38);
        x.setCounts(9, 1, 0, 0);
        Check.due("count(4)", x.count(4), 37);
        x.want(1, 1);
        Check.due("repair(0)", x.repair(0), 36);
        Check.due("repair(1)", x.repair(1), 39);
        Check.due("removeLink(0)", x.removeLink(0), 9);
        Check.due("repair(1)", x.repair(1), 35);
        Check.due("readLink(), there is room", x.readLink(), 9);
    }

    /** A least count is 0 to 20, a most count is not less than it, and at most 20, or 99. */
    private static void countsOfLinks() {
        LeastPopulations x = null;
        int before = 99;
        int calls = 0;
        for (int least = -2; least < 102; least++) {
            for (int most = -2; most < 102; most++) {
                if (calls % 400 == 0) {
                    x = Make.diagram(1, "0:0..*-0:0..*");
                    before = 99;
                }
                boolean allowed = least >= 0 && least <= 20 && (most == 99 || (most >= least && most <= 20));
                int now = 100 * least + most;
                int due = !allowed ? -2 : now == before ? -5 : before;
                Check.due("setCounts(0, 1, " + least + ", " + most + ")", x.setCounts(0, 1, least, most), due);
                before = allowed ? now : before;
                calls++;
            }
        }
    }

    /** The rules 4 * k to 4 * k + 3, by their words, for two classes and for a class with itself. */
    private static void rulesOfLinks(int[] populations) {
        for (int[] first : COUNTS) {
            for (int[] second : COUNTS) {
                LeastPopulations x = Make.diagram(2, "0:0..*-1:0..*", "0:0..*-0:0..*");
                for (int link = 0; link < 2; link++) {
                    x.setCounts(link, 0, first[0], first[1]);
                    x.setCounts(link, 1, second[0], second[1]);
                }
                for (int a : populations) {
                    x.hold(0, a);
                    rulesAre(x, 4, a, a, first, second);
                    for (int b : populations) {
                        x.hold(1, b);
                        rulesAre(x, 0, a, b, first, second);
                    }
                }
            }
        }
    }

    private static void rulesAre(LeastPopulations x, int rule, int a, int b, int[] first, int[] second) {
        int high1 = first[1] == 99 ? 1000000 : first[1];
        int high2 = second[1] == 99 ? 1000000 : second[1];
        boolean[] due = {(long) b * high1 >= a * second[0], (long) a * high2 >= b * first[0],
            a == 0 || b >= second[0], b == 0 || a >= first[0]};
        String told = " for " + a + " and " + b + ", counts " + first[0] + ".." + first[1]
            + " and " + second[0] + ".." + second[1];
        int broken = 99;
        for (int next = 3; next >= 0; next--) {
            Check.due("keeps(" + (rule + next) + ")" + told, x.keeps(rule + next), due[next] ? 1 : 0);
            broken = due[next] ? broken : next;
        }
        if (rule == 0 && broken < 99) {
            Check.due("count(4)" + told, x.count(4), broken);
        }
    }

    /** The rule 40 + c: the population of c is at least the sum of those of its children. */
    private static void rulesOfParents() {
        LeastPopulations x = Make.classes(8);
        Check.due("keeps(40), no children", x.keeps(40), 1);
        x.setParent(1, 0);
        x.setParent(2, 0);
        x.setParent(3, 1);
        Make.hold(x, 12, 5, 7, 4);
        Check.due("keeps(40), just enough", x.keeps(40), 1);
        Check.due("keeps(41), more", x.keeps(41), 1);
        Check.due("hold(2, 8), one too many", x.hold(2, 8), 40);
        Check.due("hold(0, 13)", x.hold(0, 13), 99);
        Check.due("hold(3, 5), not counted in the class 0", x.hold(3, 5), 99);
        Check.due("hold(3, 6), one too many", x.hold(3, 6), 41);
        x = Make.classes(8);
        for (int child = 0; child < 7; child++) {
            x.setParent(child, 7);
            Check.due("hold(" + child + ", 1000)", x.hold(child, 1000), 47);
        }
        Check.due("hold(7, 1000), of 7000", x.hold(7, 1000), 47);
        for (int child = 6; child > 0; child--) {
            Check.due("hold(" + child + ", 0)", x.hold(child, 0), child == 1 ? 99 : 47);
        }
    }

    /** The rule 50 + c: the population of c is at least its wanted number. */
    private static void rulesOfWants() {
        LeastPopulations x = Make.classes(8);
        for (int which = 0; which < 8; which++) {
            Check.due("keeps(" + (50 + which) + "), none of none", x.keeps(50 + which), 1);
            x.want(which, 99 - which);
            Check.due("keeps(" + (50 + which) + "), none", x.keeps(50 + which), 0);
            Check.due("hold, one too few", x.hold(which, 98 - which), 50 + which);
            Check.due("hold, just enough", x.hold(which, 99 - which), 99);
            Check.due("keeps(" + (50 + which) + ")", x.keeps(50 + which), 1);
        }
    }

    /** It asks for too many if there is no such number up to 1000: 1000 can be, 1001 is too many. */
    private static void upToAThousand() {
        LeastPopulations x = Make.diagram(3, "0:0..1-1:20..*");
        x.want(0, 50);
        Check.due("50 * 20: least(1)", x.least(1), 1000);
        Check.due("50 * 20: why(1)", x.why(1), 0);
        Check.due("50 * 20: adopt()", x.adopt(), 1050);
        x.setCounts(0, 1, 11, 99);
        x.want(0, 91);
        Check.due("91 * 11: least(1)", x.least(1), -4);
        Check.due("91 * 11: least(2), of another class", x.least(2), -4);
        Check.due("91 * 11: adopt()", x.adopt(), -4);
        x.want(0, 90);
        Check.due("90 * 11: least(1)", x.least(1), 990);
        x = Make.diagram(2, "0:20..*-1:0..1");
        x.want(1, 50);
        Check.due("50 * 20: least(0)", x.least(0), 1000);
        Check.due("50 * 20: why(0)", x.why(0), 1);
        x.setCounts(0, 0, 11, 99);
        x.want(1, 91);
        Check.due("91 * 11: least(0)", x.least(0), -4);
        x = Make.diagram(4, "3:0..1-1:10..*");
        x.setParent(1, 0);
        x.setParent(2, 0);
        Make.want(x, 0, 0, 10, 99);
        Check.due("990 + 10: least(0)", x.least(0), 1000);
        Check.due("990 + 10: why(0)", x.why(0), 40);
        Check.due("990 + 10: oneMore(2)", x.oneMore(2), -4);
        Check.due("990 + 10: oneMore(0)", x.oneMore(0), 0);
        x.want(2, 11);
        Check.due("990 + 11: least(0)", x.least(0), -4);
    }

    /** There is no number that keeps a rule with the most count 0, unless it asks for nothing. */
    private static void noSuchNumber() {
        LeastPopulations x = Make.diagram(2, "0:0..0-1:1..1");
        x.want(1, 99);
        Check.due("least(0), nothing asked", x.least(0), 0);
        x.want(0, 1);
        Check.due("least(0), no number of class 1", x.least(0), -4);
        Check.due("isIdle(0, 0, true)", x.isIdle(0, 0, true), 0);
        Check.due("isIdle(0, 1, false)", x.isIdle(0, 1, false), 0);
        Check.due("repair(0)", x.repair(0), 1);
        Check.due("repair(1)", x.repair(1), 2);
        Check.due("repair(2)", x.repair(2), -5);
        x.setCounts(0, 1, 0, 1);
        Check.due("least(0), nothing asked", x.least(0), 1);
        x = Make.diagram(2, "0:1..1-1:0..0");
        x.want(0, 99);
        Check.due("least(1), nothing asked", x.least(1), 0);
        x.want(1, 1);
        Check.due("least(1), no number of class 0", x.least(1), -4);
        Check.due("isIdle(0, 1, true)", x.isIdle(0, 1, true), 0);
        Check.due("isIdle(0, 0, false)", x.isIdle(0, 0, false), 0);
        Check.due("count(5)", x.count(5), 2);
        x.setCounts(0, 0, 0, 1);
        Check.due("least(1), nothing asked", x.least(1), 1);
    }

    /** The least populations are the least ones that keep all rules: found here by holding them all. */
    private static void leastOfAllThatKeepTheRules() {
        for (int seed = 0; seed < 400; seed++) {
            int low1 = seed % 3;
            int low2 = seed / 3 % 4;
            String text = "0:" + low1 + ".." + (low1 + seed / 2 % 3) + "-1:" + low2 + ".." + (low2 + seed / 5 % 2);
            LeastPopulations x = Make.diagram(2, text);
            Make.want(x, seed / 7 % 4, seed / 11 % 3);
            if (seed % 4 == 0) {
                x.setParent(seed / 4 % 2, 1 - seed / 4 % 2);
            }
            int[] due = leastHeld(x);
            if (due[0] < 15) {
                Check.due(text + ", seed " + seed + ": least(0)", x.least(0), due[0]);
                Check.due(text + ", seed " + seed + ": least(1)", x.least(1), due[1]);
            }
        }
    }

    private static int[] leastHeld(LeastPopulations x) {
        int[] least = {15, 15};
        for (int a = 0; a < 15; a++) {
            x.hold(0, a);
            for (int b = 0; b < 15; b++) {
                int broken = x.hold(1, b);
                if (broken == 99 || (broken == -5 && x.count(4) == 99)) {
                    least[0] = Math.min(least[0], a);
                    least[1] = Math.min(least[1], b);
                }
            }
        }
        return least;
    }

    /** Forced to be empty: none when nothing is wanted but one object, and only then. */
    private static void forcedToBeEmpty() {
        LeastPopulations x = Make.diagram(4, "0:0..1-1:10..*", "1:0..1-2:10..*", "2:0..1-3:10..*");
        Check.due("isForced(0), 1000 for one", x.isForced(0), 0);
        x.want(3, 99);
        x.want(0, 2);
        Check.due("isForced(0), whatever is wanted", x.isForced(0), 0);
        Check.due("count(3)", x.count(3), 0);
        x.setCounts(0, 1, 7, 7);
        x.setCounts(1, 1, 11, 11);
        x.setCounts(2, 1, 13, 13);
        Check.due("isForced(0), 1001 for one", x.isForced(0), 1);
        Check.due("isForced(1)", x.isForced(1), 0);
        Check.due("count(3)", x.count(3), 1);
        x.want(0, 0);
        Check.due("isForced(0), nothing wanted", x.isForced(0), 1);
        Check.due("least(0), nothing wanted", x.least(0), 0);
    }

    /** No pair comes twice, all counts are kept, and all pairs are those that the document tells. */
    private static void pairs() {
        for (int a = 0; a <= 6; a++) {
            for (int b = 0; b <= 6; b++) {
                for (int low1 = 0; low1 <= a; low1++) {
                    for (int low2 = 0; low2 <= b; low2++) {
                        pairsAre(a, b, low1, low2);
                    }
                }
            }
        }
        for (int a = 7; a <= 14; a++) {
            for (int b = 2; b <= 14; b++) {
                pairsAre(a, b, (a * 5 + b) % (a + 1), (b * 3 + a) % (b + 1));
            }
        }
        pairsAre(12, 18, 7, 5);
        pairsAre(18, 12, 7, 5);
        pairsAre(20, 15, 20, 15);
        pairsAre(20, 20, 19, 20);
        pairsAre(19, 20, 3, 11);
        pairsAre(1, 20, 1, 20);
        pairsAre(20, 1, 0, 1);
    }

    private static void pairsAre(int a, int b, int low1, int low2) {
        LeastPopulations x = Make.diagram(2, "0:0..*-1:0..*");
        Make.hold(x, a, b);
        x.setCounts(0, 0, low1, 99);
        x.setCounts(0, 1, low2, 99);
        String told = a + " and " + b + ", counts " + low1 + " and " + low2 + ": ";
        int number = Math.max(a * low2, b * low1);
        int[][] joined = new int[a][b];
        int round = 1;
        while (a > 0 && b > 0 && (round % a != 0 || round % b != 0)) {
            round++;
        }
        for (int pair = 0; pair < number; pair++) {
            joined[pair % a][(pair + pair / round) % b]++;
        }
        int[] ofSecond = new int[b];
        for (int first = 0; first < a; first++) {
            int degree = 0;
            for (int second = 0; second < b; second++) {
                String call = told + "joined(0, " + first + ", " + second + ")";
                Check.due(call, x.joined(0, first, second), joined[first][second]);
                degree += joined[first][second];
                ofSecond[second] += joined[first][second];
            }
            Check.due(told + "at least low2, and not uneven", degree >= low2 && degree * a < number + a ? 1 : 0, 1);
            Check.due(told + "degree(0, 0, " + first + ")", x.degree(0, 0, first), degree);
        }
        for (int second = 0; second < b; second++) {
            boolean fine = ofSecond[second] >= low1 && ofSecond[second] * b < number + b;
            Check.due(told + "at least low1, and not uneven", fine ? 1 : 0, 1);
            Check.due(told + "degree(0, 1, " + second + ")", x.degree(0, 1, second), ofSecond[second]);
        }
        Check.dueFloat(told + "average(0, 0)", x.average(0, 0), a == 0 ? 0.0f : (float) number / (float) a);
        Check.dueFloat(told + "average(0, 1)", x.average(0, 1), b == 0 ? 0.0f : (float) number / (float) b);
    }

    /** The pairs of the largest populations, where their objects come round again and again. */
    private static void pairsOfThousands() {
        LeastPopulations x = Make.diagram(2, "0:0..*-1:20..*");
        Make.hold(x, 1000, 1000);
        joinedAre(x, "1000 and 1000", 999, 999, 1, 998, 0, 0, 1, 18, 1, 19, 0);
        joinedAre(x, "1000 and 1000", 0, 0, 1, 19, 1, 20, 0, 999, 0);
        Check.due("degree(0, 0, 999)", x.degree(0, 0, 999), 20);
        Check.due("degree(0, 1, 0)", x.degree(0, 1, 0), 20);
        Check.due("degree(0, 1, 999)", x.degree(0, 1, 999), 20);
        x.hold(1, 999);
        joinedAre(x, "1000 and 999", 0, 0, 1, 19, 1, 20, 0, 998, 0);
        joinedAre(x, "1000 and 999", 999, 0, 1, 19, 1, 20, 0, 998, 0, 999, -1);
        Check.due("degree(0, 1, 19)", x.degree(0, 1, 19), 21);
        Check.due("degree(0, 1, 20)", x.degree(0, 1, 20), 20);
        Check.dueFloat("average(0, 1)", x.average(0, 1), 20000.0f / 999.0f);
        x.hold(1, 20);
        joinedAre(x, "1000 and 20", 999, 0, 1, 19, 1, 20, -1);
        Check.due("degree(0, 1, 19), all", x.degree(0, 1, 19), 1000);
        Check.dueFloat("average(0, 1)", x.average(0, 1), 1000.0f);
        x.hold(1, 19);
        joinedAre(x, "1000 and 19", 0, 0, -4, 18, -4, 19, -1);
    }

    private static void joinedAre(LeastPopulations x, String told, int first, int... due) {
        for (int index = 0; index < due.length; index += 2) {
            Check.due(told + ": joined(0, " + first + ", " + due[index] + ")", x.joined(0, first, due[index]), due[index + 1]);
        }
    }

    /** One object for a thousand others, in either class. */
    private static void oneForAll() {
        LeastPopulations x = Make.diagram(2, "0:1..*-1:0..*");
        Make.hold(x, 1, 1000);
        joinedAre(x, "1 and 1000", 0, 0, 1, 999, 1, 1000, -1);
        Check.due("degree(0, 0, 0)", x.degree(0, 0, 0), 1000);
        Check.due("degree(0, 1, 999)", x.degree(0, 1, 999), 1);
        Check.dueFloat("average(0, 0)", x.average(0, 0), 1000.0f);
        x = Make.diagram(2, "0:0..*-1:1..*");
        Make.hold(x, 1000, 1);
        joinedAre(x, "1000 and 1", 999, 0, 1, 1, -1);
        Check.due("degree(0, 0, 999)", x.degree(0, 0, 999), 1);
        Check.due("degree(0, 1, 0)", x.degree(0, 1, 0), 1000);
        Check.dueFloat("average(0, 1)", x.average(0, 1), 1000.0f);
    }
}
