/** All that an object tells of itself, as one text; in a full diagram this takes some 300 calls. */
final class Portrait {
    private final LeastPopulations x;
    private final StringBuilder told = new StringBuilder();

    private Portrait(LeastPopulations x) {
        this.x = x;
    }

    static String of(LeastPopulations x) {
        Portrait portrait = new Portrait(x);
        portrait.whole();
        for (int which = 0; which < x.count(0); which++) {
            portrait.classIs(which);
        }
        for (int link = 0; link < x.count(1); link++) {
            portrait.linkIs(link);
        }
        return portrait.told.toString();
    }

    private void whole() {
        for (int what = 0; what < 9; what++) {
            add("count", what, x.count(what));
        }
        for (int rule = 0; rule < 58; rule++) {
            add("keeps", rule, x.keeps(rule));
        }
        for (int rank = 0; rank < 3; rank++) {
            add("repair", rank, x.repair(rank));
        }
        add("cost", 0, x.cost());
    }

    private void classIs(int which) {
        for (int what = 0; what < 5; what++) {
            add("classTold " + what + " of", which, x.classTold(which, what));
        }
        add("size", which, x.size(which));
        add("share", which, x.share(which));
        add("least", which, x.least(which));
        add("why", which, x.why(which));
        add("isForced", which, x.isForced(which));
        add("oneMore", which, x.oneMore(which));
    }

    private void linkIs(int link) {
        for (int what = 0; what < 6; what++) {
            add("link " + what + " of", link, x.link(link, what));
        }
        for (int end = 0; end < 2; end++) {
            add("isIdle least " + end, link, x.isIdle(link, end, false));
            add("isIdle most " + end, link, x.isIdle(link, end, true));
            add("average " + end, link, x.average(link, end));
            add("degree " + end, link, x.degree(link, end, 0));
        }
        add("joined", link, x.joined(link, 1, 0));
    }

    private void add(String call, int of, double answer) {
        told.append(call).append(' ').append(of).append(" is ").append(answer).append('\n');
    }
}
