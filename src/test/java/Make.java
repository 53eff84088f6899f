/** Makes diagrams for the tests; a helper that does not get through throws. */
final class Make {
    private Make() {
    }

    static LeastPopulations classes(int number) {
        LeastPopulations x = new LeastPopulations();
        for (int which = 0; which < number; which++) {
            if (x.addClass() != which) {
                throw new IllegalStateException("no class " + which);
            }
        }
        return x;
    }

    /** A diagram with as many classes as told and a link for each text. */
    static LeastPopulations diagram(int classes, String... links) {
        LeastPopulations x = classes(classes);
        for (int link = 0; link < links.length; link++) {
            if (read(x, links[link]) != link) {
                throw new IllegalStateException("no link " + links[link]);
            }
        }
        return x;
    }

    static int read(LeastPopulations x, String text) {
        write(x, text);
        return x.readLink();
    }

    static void write(LeastPopulations x, String text) {
        x.clearText();
        for (int index = 0; index < text.length(); index++) {
            x.type(text.charAt(index));
        }
    }

    static void want(LeastPopulations x, int... wanted) {
        for (int which = 0; which < wanted.length; which++) {
            x.want(which, wanted[which]);
        }
    }

    static void hold(LeastPopulations x, int... populations) {
        for (int which = 0; which < populations.length; which++) {
            x.hold(which, populations[which]);
        }
    }
}
