/** Promises 17 and 18: stroke, point. */
public final class StrokeTest {
    public static void main(String[] args) {
        Due due = new Due();
        properties(due);
        lengths(due);
        errors(due);
        points(due);
        due.end();
    }

    private static void properties(Due due) {
        InkPad pad = new InkPad();
        due.draws(pad, 3, 50, 300, 20, 310, 90, 250, 60, 420);
        due.draws(pad, 0, 7, 8);
        // The color, the points, left, right, top, bottom, the length, the line, the word, the place.
        all(due, pad, 0, 3, 4, 20, 90, 250, 420, 316 + 921 + 1726, 1, 1, 1);
        all(due, pad, 1, 0, 1, 7, 7, 8, 8, 0, 0, 0, 0);
        due.draws(pad, 1, 500, 400, 510, 390);
        due.draws(pad, 2, 0, 260);
        all(due, pad, 2, 1, 2, 500, 510, 390, 400, 141, 1, 2, 3);
        all(due, pad, 3, 2, 1, 0, 0, 260, 260, 0, 1, 1, 1);
        all(due, pad, 0, 3, 4, 20, 90, 250, 420, 316 + 921 + 1726, 1, 1, 2);
    }

    private static void all(Due due, InkPad pad, int stroke, int... wanted) {
        for (int what = 0; what < wanted.length; what++) {
            due.is("stroke(" + stroke + ", " + what + ")", pad.stroke(stroke, what), wanted[what]);
        }
    }

    private static void lengths(Due due) {
        length(due, 10, 0, 0, 1, 0);
        length(due, 14, 0, 0, 1, 1);
        length(due, 22, 0, 0, 1, 2);
        length(due, 28, 5, 5, 3, 7);
        length(due, 50, 100, 100, 97, 104);
        length(due, 14142, 0, 0, 1000, 1000);
        length(due, 14142, 1000, 0, 0, 1000);
        length(due, 10000, 1000, 1000, 0, 1000);
        // Each root is rounded down for itself.
        length(due, 42, 0, 0, 1, 1, 2, 2, 3, 3);
        length(due, 20, 4, 4, 5, 4, 4, 4);
    }

    private static void length(Due due, int want, int... coordinates) {
        InkPad pad = new InkPad();
        due.draws(pad, 0, coordinates);
        due.is("length", pad.stroke(0, 6), want);
        due.is("count(2)", pad.count(2), want);
        due.is("color(0, 2)", pad.color(0, 2), want);
    }

    private static void errors(Due due) {
        InkPad pad = new InkPad();
        due.is("stroke(0, 10) of nothing", pad.stroke(0, 10), InkPad.UNKNOWN);
        due.draws(pad, 0, 1, 1);
        due.is("stroke(-1, 0)", pad.stroke(-1, 0), InkPad.UNKNOWN);
        due.is("stroke(1, 0)", pad.stroke(1, 0), InkPad.UNKNOWN);
        due.is("stroke(16, 0)", pad.stroke(16, 0), InkPad.UNKNOWN);
        due.is("stroke(1, -1)", pad.stroke(1, -1), InkPad.UNKNOWN);
        due.is("stroke(0, -1)", pad.stroke(0, -1), InkPad.BAD_VALUE);
        due.is("stroke(0, 10)", pad.stroke(0, 10), InkPad.BAD_VALUE);
        due.is("stroke(0, greatest)", pad.stroke(0, Integer.MAX_VALUE), InkPad.BAD_VALUE);
        due.is("stroke(least, 0)", pad.stroke(Integer.MIN_VALUE, 0), InkPad.UNKNOWN);
    }

    private static void points(Due due) {
        InkPad pad = new InkPad();
        due.is("point(0, 0, 2) of nothing", pad.point(0, 0, 2), InkPad.UNKNOWN);
        due.draws(pad, 0, 1, 2, 3, 4);
        due.draws(pad, 0, 0, 1000);
        due.is("point(0, 0, 0)", pad.point(0, 0, 0), 1);
        due.is("point(0, 0, 1)", pad.point(0, 0, 1), 2);
        due.is("point(0, 1, 0)", pad.point(0, 1, 0), 3);
        due.is("point(0, 1, 1)", pad.point(0, 1, 1), 4);
        due.is("point(1, 0, 1)", pad.point(1, 0, 1), 1000);
        due.is("point(0, 2, 0)", pad.point(0, 2, 0), InkPad.UNKNOWN);
        due.is("point(0, -1, 0)", pad.point(0, -1, 0), InkPad.UNKNOWN);
        due.is("point(1, 1, 5)", pad.point(1, 1, 5), InkPad.UNKNOWN);
        due.is("point(2, 0, 0)", pad.point(2, 0, 0), InkPad.UNKNOWN);
        due.is("point(-1, 0, 0)", pad.point(-1, 0, 0), InkPad.UNKNOWN);
        due.is("point(0, 0, 2)", pad.point(0, 0, 2), InkPad.BAD_VALUE);
        due.is("point(0, 0, -1)", pad.point(0, 0, -1), InkPad.BAD_VALUE);
    }
}
