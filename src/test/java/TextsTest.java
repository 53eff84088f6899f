/** "TEXTS": which texts are those of a link, and where the others have their fault. */
public final class TextsTest {
    private static final String SIGNS = "0123456789:.-*/; ,+aO\u0000\u0080\u00b2\u0131\u0660\u09e8\u2010\uff10\uff1a\uffff";
    private static final String OTHER_END = "1:0..*";

    private LeastPopulations x;
    private int calls;

    private TextsTest() {
    }

    public static void main(String[] args) {
        TextsTest test = new TextsTest();
        test.allNumbers();
        test.edited("0:1..2-1:3..*");
        test.edited("1:10..20-0:9..19");
        test.edited("1:0..*-1:20..20");
        test.edited("0:2..12-0:0..0");
        sixtyCharacters();
        anyCharacter();
        theTextStays();
        Check.end("TextsTest");
    }

    private int read(String text) {
        if (calls + text.length() + 3 > 450 || x == null) {
            x = Make.classes(2);
            calls = 0;
        }
        calls += text.length() + 3;
        int answer = Make.read(x, text);
        if (answer >= 0) {
            x.undo();
        }
        return answer;
    }

    /** Each least count of one or two digits with each most count, at both ends. */
    private void allNumbers() {
        for (int least = 0; least < 110; least++) {
            for (int most = 0; most < 111; most++) {
                String counts = number(least) + ".." + (most == 110 ? "*" : number(most));
                int fault = faultOfCounts(number(least), most == 110 ? "*" : number(most));
                String first = "0:" + counts + "-" + OTHER_END;
                String second = OTHER_END + "-0:" + counts;
                Check.due("read " + first, read(first), fault < 0 ? 0 : -102 - fault);
                Check.due("read " + second, read(second), fault < 0 ? 0 : -109 - fault);
            }
        }
    }

    /** The digits 0 to 9, then 00 to 99. */
    private static String number(int index) {
        return index < 10 ? "" + index : "" + (index - 10) / 10 + (index - 10) % 10;
    }

    /** The place of the fault in both counts, or -1. */
    private static int faultOfCounts(String least, String most) {
        if (digitsTaken(least) < least.length()) {
            return 1;
        }
        int place = least.length() + 2;
        if (most.equals("*")) {
            return -1;
        }
        int taken = digitsTaken(most);
        if (Integer.parseInt(most.substring(0, taken)) < Integer.parseInt(least)) {
            return place + taken - 1;
        }
        return taken < most.length() ? place + taken : -1;
    }

    /** A number takes two digits if the first one is not 0 and both together are at most 20. */
    private static int digitsTaken(String digits) {
        return digits.length() == 2 && digits.charAt(0) != '0' && Integer.parseInt(digits) <= 20 ? 2 : 1;
    }

    /** The text with any one character put in, out, or in place of another, and each beginning of it. */
    private void edited(String text) {
        for (int place = 0; place <= text.length(); place++) {
            String before = text.substring(0, place);
            asTheOracle(before);
            for (int sign = 0; sign < SIGNS.length(); sign++) {
                asTheOracle(before + SIGNS.charAt(sign));
                asTheOracle(before + SIGNS.charAt(sign) + text.substring(place));
                if (place < text.length()) {
                    asTheOracle(before + SIGNS.charAt(sign) + text.substring(place + 1));
                }
            }
            if (place < text.length()) {
                asTheOracle(before + text.substring(place + 1));
            }
        }
        asTheOracle(text + text);
    }

    private void asTheOracle(String text) {
        Oracle oracle = new Oracle();
        oracle.addClass();
        oracle.addClass();
        for (int index = 0; index < text.length(); index++) {
            oracle.type(text.charAt(index));
        }
        Check.due("read " + text, read(text), oracle.readLink());
    }

    /** There is a text of at most 60 characters, empty at first. */
    private static void sixtyCharacters() {
        LeastPopulations x = Make.classes(1);
        Check.due("count(8), at first", x.count(8), 0);
        Check.due("readLink(), the empty text", x.readLink(), -100);
        String text = "0:1..2-0:0..20";
        for (int length = 1; length <= 60; length++) {
            char next = length <= text.length() ? text.charAt(length - 1) : '0';
            Check.due("type", x.type(next), length);
        }
        for (int more = 0; more < 3; more++) {
            Check.due("type behind 60", x.type('y'), -3);
            Check.due("count(8)", x.count(8), 60);
        }
        Check.due("readLink()", x.readLink(), -114);
        Check.due("clearText()", x.clearText(), 60);
        Check.due("count(8)", x.count(8), 0);
        Check.due("clearText(), empty", x.clearText(), 0);
        Check.due("type, there is room", x.type('0'), 1);
        Check.due("readLink(), it ends too early", x.readLink(), -101);
    }

    /** Any character can be typed, the first and the last one too. */
    private static void anyCharacter() {
        LeastPopulations x = new LeastPopulations();
        int[] signs = {0, 1, 9, 10, 127, 128, 255, 256, 0x660, 0xd800, 0xdc00, 0xfffe, 0xffff};
        for (int index = 0; index < signs.length; index++) {
            Check.due("type " + signs[index], x.type((char) signs[index]), index + 1);
            Check.due("readLink()", x.readLink(), -100);
        }
    }

    /** The text stays when its link is read, and is no part of a state. */
    private static void theTextStays() {
        LeastPopulations x = Make.diagram(1, "0:0..1-0:0..1");
        Check.due("count(8), it stays", x.count(8), 13);
        Check.due("readLink() again", x.readLink(), 1);
        x.keep();
        x.type('5');
        Check.due("undo()", x.undo(), 2);
        Check.due("count(8) after undo()", x.count(8), 14);
        Check.due("restore()", x.restore(), 1);
        Check.due("count(8) after restore()", x.count(8), 14);
        Check.due("readLink()", x.readLink(), 2);
        Check.due("link(2, 5)", x.link(2, 5), 15);
    }
}
