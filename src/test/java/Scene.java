/** Diagrams in which calls are refused; each one is made anew by the same calls. */
enum Scene {
    /** A new object. */
    NEW {
        @Override
        LeastPopulations make() {
            return new LeastPopulations();
        }
    },

    /** Three classes and two links, with least populations, a whole history, a snapshot and a text. */
    SOME {
        @Override
        LeastPopulations make() {
            LeastPopulations x = Make.diagram(3, "0:1..2-1:3..*", "1:0..5-1:1..4");
            x.want(0, 2);
            x.hold(1, 3);
            x.keep();
            x.setParent(0, 2);
            x.setSize(1, 0x40200000);
            x.hold(0, 2);
            x.setCounts(1, 0, 1, 5);
            return x;
        }
    },

    /** As before, but the least populations are held, and two states are in the history. */
    ADOPTED {
        @Override
        LeastPopulations make() {
            LeastPopulations x = SOME.make();
            x.adopt();
            x.undo();
            x.undo();
            x.undo();
            x.adopt();
            return x;
        }
    },

    /** As SOME, but all that is in the history is undone, so that it is empty; the text and the snapshot are there. */
    SPENT {
        @Override
        LeastPopulations make() {
            LeastPopulations x = SOME.make();
            for (int left = 3; left >= 0; left--) {
                x.undo();
            }
            return x;
        }
    },

    /** Without least populations, without a snapshot, and the text has a fault. */
    UNFIT {
        @Override
        LeastPopulations make() {
            LeastPopulations x = Make.diagram(2, "0:0..1-0:2..3", "0:1..1-1:0..4");
            x.want(0, 1);
            x.hold(0, 3);
            x.hold(1, 5);
            Make.write(x, "0:5..4");
            return x;
        }
    },

    /** Ten links, and the text of one more. */
    LINKED {
        @Override
        LeastPopulations make() {
            LeastPopulations x = Make.diagram(1, "0:0..2-0:1..2");
            x.hold(0, 1);
            for (int link = 1; link < 10; link++) {
                x.readLink();
            }
            return x;
        }
    },

    /** Ten links, and the text of one more, with a class that is not there. */
    STRANGE {
        @Override
        LeastPopulations make() {
            LeastPopulations x = LINKED.make();
            Make.write(x, "0:0..2-1:1..2");
            return x;
        }
    },

    /** Eight classes, ten links and sixty characters. */
    FULL {
        @Override
        LeastPopulations make() {
            LeastPopulations x = Make.classes(8);
            Make.write(x, "7:1..*-0:2..9");
            for (int link = 0; link < 10; link++) {
                x.readLink();
            }
            x.keep();
            x.want(7, 4);
            x.hold(7, 3);
            x.hold(0, 6);
            x.setParent(3, 7);
            for (int length = 13; length < 60; length++) {
                x.type('x');
            }
            return x;
        }
    };

    abstract LeastPopulations make();
}
