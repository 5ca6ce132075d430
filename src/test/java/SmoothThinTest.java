/** Promises 9 and 10: smooth, thin. */
public final class SmoothThinTest {
    public static void main(String[] args) {
        Due due = new Due();
        smooth(due);
        smoothRepeats(due);
        smoothErrors(due);
        thin(due);
        thinRepeats(due);
        thinErrors(due);
        due.end();
    }

    private static void smooth(Due due) {
        InkPad pad = new InkPad();
        due.draws(pad, 2, 0, 0, 100, 7, 0, 200, 33, 33);
        due.is("smooth(0, 1)", pad.smooth(0, 1), 4);
        // All at once: (0 + 200 + 0) / 4, (0 + 14 + 200) / 4; (100 + 0 + 33) / 4, (7 + 400 + 33) / 4.
        due.points("one round", pad, 0, 0, 0, 50, 53, 33, 110, 33, 33);
        due.is("the color stays", pad.stroke(0, 0), 2);
        due.is("an act", pad.count(8), 2);
        due.is("smooth(0, 1) again", pad.smooth(0, 1), 4);
        due.points("another round", pad, 0, 0, 0, 33, 54, 37, 76, 33, 33);
        due.is("undo", pad.undo(), 2);
        due.is("undo", pad.undo(), 1);
        due.is("smooth(0, 2)", pad.smooth(0, 2), 4);
        due.points("two rounds at once", pad, 0, 0, 0, 33, 54, 37, 76, 33, 33);
    }

    private static void smoothRepeats(Due due) {
        InkPad pad = new InkPad();
        due.draws(pad, 0, 0, 0, 1, 0, 0, 0);
        due.is("a bow that becomes a point", pad.smooth(0, 1), 1);
        due.points("one point is left", pad, 0, 0, 0);
        due.is("which stays as it is", pad.smooth(0, 8), InkPad.NONE);
        due.draws(pad, 0, 0, 0, 2, 0, 0, 0, 9, 9);
        due.is("inner points", pad.smooth(1, 1), 4);
        due.points("inner points", pad, 1, 0, 0, 1, 0, 2, 2, 9, 9);
        due.draws(pad, 0, 9, 9, 10, 9, 9, 9, 10, 9, 9, 9);
        due.is("points that become the same", pad.smooth(2, 1), 1);
        // Repeats are removed after all rounds only: with them gone earlier, more would be moved.
        due.draws(pad, 0, 0, 0, 1, 0, 0, 0, 40, 0);
        due.is("three rounds", pad.smooth(3, 3), 4);
        due.points("three rounds", pad, 3, 0, 0, 4, 0, 18, 0, 40, 0);
        due.draws(pad, 0, 0, 0, 1, 0, 0, 0, 0, 1, 0, 40);
        due.is("a repeat after the first of two rounds", pad.smooth(4, 2), 4);
        due.points("a repeat after the first of two rounds", pad, 4, 0, 0, 0, 2, 0, 15, 0, 40);
    }

    private static void smoothErrors(Due due) {
        InkPad pad = new InkPad();
        due.is("smooth(0, 9) of nothing", pad.smooth(0, 9), InkPad.UNKNOWN);
        due.draws(pad, 0, 0, 0, 10, 10);
        due.draws(pad, 0, 0, 0, 10, 90, 0, 0);
        due.is("smooth(-1, 0)", pad.smooth(-1, 0), InkPad.UNKNOWN);
        due.is("smooth(2, 1)", pad.smooth(2, 1), InkPad.UNKNOWN);
        due.is("smooth(1, 0)", pad.smooth(1, 0), InkPad.BAD_VALUE);
        due.is("smooth(1, 9)", pad.smooth(1, 9), InkPad.BAD_VALUE);
        due.is("smooth(0, 9)", pad.smooth(0, 9), InkPad.BAD_VALUE);
        due.is("two points", pad.smooth(0, 8), InkPad.NONE);
        due.is("no acts", pad.count(8), 2);
        due.is("smooth(1, 8)", pad.smooth(1, 8), 1);
        due.points("eight rounds", pad, 1, 0, 0);
    }

    private static void thin(Due due) {
        InkPad pad = new InkPad();
        due.draws(pad, 3, 0, 0, 3, 4, 4, 4, 9, 4, 12, 8, 13, 8);
        due.is("thin(0, 5)", pad.thin(0, 5), 5);
        due.points("a distance that is the same is kept", pad, 0, 0, 0, 3, 4, 9, 4, 12, 8, 13, 8);
        due.is("the color stays", pad.stroke(0, 0), 3);
        due.is("an act", pad.count(8), 2);
        due.is("thin(0, 5) again", pad.thin(0, 5), InkPad.NONE);
        due.is("thin(0, 6)", pad.thin(0, 6), 3);
        due.points("from the latest kept", pad, 0, 0, 0, 9, 4, 13, 8);
        due.is("thin(0, 500)", pad.thin(0, 500), 2);
        due.is("first and last stay", pad.thin(0, 500), InkPad.NONE);
        due.points("first and last", pad, 0, 0, 0, 13, 8);
    }

    private static void thinRepeats(Due due) {
        InkPad pad = new InkPad();
        due.draws(pad, 0, 5, 5, 6, 6, 5, 5);
        due.is("only the first is left", pad.thin(0, 2), 1);
        due.points("only the first is left", pad, 0, 5, 5);
        due.is("which stays as it is", pad.thin(0, 2), InkPad.NONE);
        due.draws(pad, 0, 0, 0, 100, 0, 101, 0, 100, 0);
        due.is("the last repeats the one kept before", pad.thin(1, 50), 2);
        due.points("the last repeats", pad, 1, 0, 0, 100, 0);
        due.draws(pad, 0, 0, 0, 1, 0, 0, 0, 1, 0);
        due.is("thin(2, 1)", pad.thin(2, 1), InkPad.NONE);
        due.is("thin(2, 2)", pad.thin(2, 2), 2);
    }

    private static void thinErrors(Due due) {
        InkPad pad = new InkPad();
        due.is("thin(0, 0) of nothing", pad.thin(0, 0), InkPad.UNKNOWN);
        due.draws(pad, 0, 0, 0, 1, 1, 0, 2);
        due.is("thin(-1, 501)", pad.thin(-1, 501), InkPad.UNKNOWN);
        due.is("thin(1, 1)", pad.thin(1, 1), InkPad.UNKNOWN);
        due.is("thin(0, 0)", pad.thin(0, 0), InkPad.BAD_VALUE);
        due.is("thin(0, 501)", pad.thin(0, 501), InkPad.BAD_VALUE);
        due.is("thin(0, -5)", pad.thin(0, -5), InkPad.BAD_VALUE);
        due.is("no acts", pad.count(8), 1);
        due.is("thin(0, 1)", pad.thin(0, 1), InkPad.NONE);
        due.is("thin(0, 500)", pad.thin(0, 500), 2);
    }
}
