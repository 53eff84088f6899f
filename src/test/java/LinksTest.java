/** Promises 6 to 8, 11, 12 and 17: links, and the texts they are read from. */
public final class LinksTest {
    private static final String PLAIN = "0:1..2-1:3..*";

    public static void main(String[] args) {
        promise6();
        promise7();
        promise8();
        promise11();
        promise12();
        promise17();
        Check.end("LinksTest");
    }

    private static void promise6() {
        goodTexts();
        faults();
        charactersInPlaces();
        LeastPopulations x = Make.classes(2);
        Check.due("readLink() without a text", x.readLink(), -100);
        Check.due("no second class", Make.read(x, "0:1..2-2:3..*"), -1);
        Check.due("no first class", Make.read(x, "2:1..2-0:3..*"), -1);
        Check.due("no class 8", Make.read(x, "8:1..2-9:3..*"), -1);
        Check.due("no class, but a fault", Make.read(x, "9:1..2-9:3..2"), -112);
        Check.due("count(7)", x.count(7), 2);
        Make.write(x, PLAIN);
        for (int link = 0; link < 10; link++) {
            Check.due("readLink(), the text stays", x.readLink(), link);
        }
        Check.due("readLink(), an eleventh one", x.readLink(), -3);
        Check.due("no class, and no room", Make.read(x, "0:1..2-2:3..*"), -1);
        Check.due("a fault, and no room", Make.read(x, "0:1..2-2:3..*."), -113);
        Check.due("count(1)", x.count(1), 10);
        Check.due("count(7)", x.count(7), 4);
        Check.due("undo()", x.undo(), 3);
        Check.due("count(1)", x.count(1), 9);
        Check.due("the text is no state", x.count(8), 14);
    }

    private static void goodTexts() {
        readAs("0:0..0-0:0..0", 0, 0, 0, 0, 0, 0);
        readAs("1:0..*-0:20..20", 1, 0, 0, 99, 20, 20);
        readAs("1:10..19-1:9..10", 1, 1, 10, 19, 9, 10);
        readAs("7:2..2-3:12..*", 7, 3, 2, 2, 12, 99);
        readAs("0:1..10-7:19..20", 0, 7, 1, 10, 19, 20);
        readAs("5:20..*-6:5..15", 5, 6, 20, 99, 5, 15);
    }

    private static void readAs(String text, int... numbers) {
        LeastPopulations x = Make.classes(8);
        Check.due("read " + text, Make.read(x, text), 0);
        for (int what = 0; what < 6; what++) {
            Check.due(text + ": link(0, " + what + ")", x.link(0, what), numbers[what]);
        }
    }

    private static void faults() {
        fault("", 0);
        fault(" 0:1..2-1:3..*", 0);
        fault("00:1..2", 1);
        fault("0:01..2-1:3..*", 3);
        fault("0:00..2-1:3..*", 3);
        fault("0:21..*-1:3..*", 3);
        fault("0:30..*-1:3..*", 3);
        fault("0:201..*", 4);
        fault("0:20", 4);
        fault("0:2", 3);
        fault("0:1.", 4);
        fault("0:1..", 5);
        fault("0:1...", 5);
        fault("0:*..2", 2);
        fault("0:1..02-1:3..*", 5);
        fault("0:5..3", 5);
        fault("0:5..3-1:3..*", 5);
        fault("0:5..25-1:3..*", 5);
        fault("0:5..55-1:3..*", 6);
        fault("0:2..25-1:3..*", 6);
        fault("0:5..10", 7);
        fault("0:15..12", 7);
        fault("0:15..12-", 7);
        fault("0:12..1", 6);
        fault("0:12..1-1:3..*", 6);
        fault("0:12..12", 8);
        fault("0:1..00", 5);
        fault("0:0..00-1:3..*", 6);
        fault("0:1..99-1:3..*", 6);
        fault("0:1..**", 6);
        fault("0:1..2--1", 7);
        fault("0:1..2-1:3..2", 12);
        fault("0:1..2-1:20..19", 14);
        fault("0:1..2-1:20..20", -1);
        fault("0:1..2-1:3..*-", 13);
        fault("0:1..2-1:3..* ", 13);
        fault("0:1..2-1:3..4*", 13);
        fault("0:1..2-1:1..120", 14);
        fault("a:1..2-1:3..*", 0);
        fault("\u0661:1..2-1:3..*", 0);
        fault("0:1..2-1:3..\uff13", 12);
        fault("0\u0000", 1);
    }

    private static void fault(String text, int place) {
        LeastPopulations x = Make.classes(2);
        Check.due("read " + text, Make.read(x, text), place < 0 ? 0 : -100 - place);
        Check.due("count(8)", x.count(8), text.length());
    }

    /** Each text that ends too early, and each wrong character at each place. */
    private static void charactersInPlaces() {
        LeastPopulations x = Make.classes(2);
        for (int length = 0; length < PLAIN.length(); length++) {
            Check.due("the first " + length, Make.read(x, PLAIN.substring(0, length)), -100 - length);
            String spoilt = PLAIN.substring(0, length) + "/" + PLAIN.substring(length + 1);
            Check.due("read " + spoilt, Make.read(x, spoilt), -100 - length);
            if (x.count(1) != 0) {
                x.undo();
            }
        }
    }

    private static void promise7() {
        LeastPopulations x = Make.diagram(2, PLAIN);
        Check.due("setCounts(0, 0, 0, 2)", x.setCounts(0, 0, 0, 2), 102);
        Check.due("setCounts(0, 1, 20, 20)", x.setCounts(0, 1, 20, 20), 399);
        Check.due("setCounts(0, 1, 20, 20) again", x.setCounts(0, 1, 20, 20), -5);
        Check.due("setCounts(0, 1, 20, 99)", x.setCounts(0, 1, 20, 99), 2020);
        Check.due("setCounts(0, 0, 0, 2), as it is", x.setCounts(0, 0, 0, 2), -5);
        Check.due("setCounts(0, 0, 2, 2)", x.setCounts(0, 0, 2, 2), 2);
        Check.due("setCounts(0, 0, 0, 0)", x.setCounts(0, 0, 0, 0), 202);
        int[][] bad = {{-1, 5}, {21, 99}, {21, 21}, {5, 4}, {0, 21}, {0, 98}, {0, 100}, {0, -1}, {99, 99}};
        for (int[] counts : bad) {
            String told = counts[0] + ", " + counts[1] + ")";
            Check.due("setCounts(0, 0, " + told, x.setCounts(0, 0, counts[0], counts[1]), -2);
            Check.due("setCounts(0, 2, " + told, x.setCounts(0, 2, counts[0], counts[1]), -1);
            Check.due("setCounts(1, 0, " + told, x.setCounts(1, 0, counts[0], counts[1]), -1);
        }
        Check.due("setCounts(-1, 0, 0, 0)", x.setCounts(-1, 0, 0, 0), -1);
        Check.due("setCounts(0, -1, 0, 0)", x.setCounts(0, -1, 0, 0), -1);
        int[] row = {0, 1, 0, 0, 20, 99};
        for (int what = 0; what < 6; what++) {
            Check.due("link(0, " + what + ")", x.link(0, what), row[what]);
        }
        Check.due("undo()", x.undo(), 3);
        Check.due("link(0, 2)", x.link(0, 2), 2);
        Check.due("link(0, 3)", x.link(0, 3), 2);
    }

    private static void promise8() {
        LeastPopulations x = Make.diagram(3, "0:1..1-1:1..1", "0:2..2-1:2..2", "1:3..3-2:3..3", "2:4..4-0:4..4");
        Check.due("removeLink(4)", x.removeLink(4), -1);
        Check.due("removeLink(-1)", x.removeLink(-1), -1);
        Check.due("removeLink(1)", x.removeLink(1), 3);
        int[][] rows = {{0, 1, 1, 1, 1, 1}, {1, 2, 3, 3, 3, 3}, {2, 0, 4, 4, 4, 4}};
        rowsAre(x, rows);
        Check.due("removeLink(3)", x.removeLink(3), -1);
        Check.due("removeLink(2)", x.removeLink(2), 2);
        Check.due("undo()", x.undo(), 3);
        rowsAre(x, rows);
        Check.due("removeLink(0)", x.removeLink(0), 2);
        Check.due("link(0, 2)", x.link(0, 2), 3);
        Check.due("link(1, 2)", x.link(1, 2), 4);
        Check.due("removeLink(0)", x.removeLink(0), 1);
        Check.due("removeLink(0)", x.removeLink(0), 0);
        Check.due("removeLink(0)", x.removeLink(0), -1);
        x = Make.classes(1);
        Make.write(x, "0:0..*-0:0..*");
        for (int link = 0; link < 10; link++) {
            x.readLink();
        }
        Check.due("removeLink(9) of ten", x.removeLink(9), 9);
        Check.due("removeLink(0) of nine", x.removeLink(0), 8);
        Check.due("readLink()", x.readLink(), 8);
    }

    private static void rowsAre(LeastPopulations x, int[][] rows) {
        Check.due("count(1)", x.count(1), rows.length);
        for (int link = 0; link < rows.length; link++) {
            for (int what = 0; what < 6; what++) {
                Check.due("link(" + link + ", " + what + ")", x.link(link, what), rows[link][what]);
            }
        }
    }

    private static void promise11() {
        LeastPopulations x = new LeastPopulations();
        for (int length = 1; length <= 60; length++) {
            Check.due("type", x.type((char) (length * 1092)), length);
        }
        Check.due("type behind 60", x.type('0'), -3);
        Check.due("count(8)", x.count(8), 60);
        Check.due("count(7), no act", x.count(7), 0);
        x = Make.classes(2);
        Make.write(x, PLAIN + "x".repeat(47));
        Check.due("type behind 60", x.type('y'), -3);
        Check.due("readLink()", x.readLink(), -113);
    }

    private static void promise12() {
        LeastPopulations x = Make.classes(2);
        Check.due("clearText(), empty", x.clearText(), 0);
        Make.write(x, PLAIN);
        Check.due("clearText()", x.clearText(), 13);
        Check.due("clearText() again", x.clearText(), 0);
        Check.due("readLink()", x.readLink(), -100);
        Check.due("type", x.type('0'), 1);
        Check.due("readLink(), nothing of before", x.readLink(), -101);
        Check.due("count(7), no act", x.count(7), 2);
    }

    private static void promise17() {
        LeastPopulations x = Make.diagram(8, "7:1..2-6:3..*");
        int[] row = {7, 6, 1, 2, 3, 99};
        for (int what = 0; what < 6; what++) {
            Check.due("link(0, " + what + ")", x.link(0, what), row[what]);
        }
        Check.due("link(0, 6)", x.link(0, 6), -2);
        Check.due("link(0, -1)", x.link(0, -1), -2);
        Check.due("link(1, 0)", x.link(1, 0), -1);
        Check.due("link(1, 6)", x.link(1, 6), -1);
        Check.due("link(-1, 0)", x.link(-1, 0), -1);
    }
}
