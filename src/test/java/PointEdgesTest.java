/** The edges of points, strokes and the buffer, a test for each sentence (promises 1 to 3, 17, 18). */
public final class PointEdgesTest {
    public static void main(String[] args) {
        Due due = new Due();
        newObject(due);
        coordinates(due);
        onePoint(due);
        twentyFourPoints(due);
        colors(due);
        neighboursDiffer(due);
        sixteenStrokes(due);
        leastAndGreatest(due);
        allButTheFirst(due);
        rootOfASquare(due);
        rootBesideASquare(due);
        greatestRoots(due);
        emptyBuffer(due);
        fullBuffer(due);
        sameAsTheLast(due);
        fullAndTheSame(due);
        clearPoints(due);
        stroke(due);
        point(due);
        due.end();
    }

    private static void newObject(Due due) {
        due.about("Creates an empty pad.");
        int[] counts = {0, 0, 0, 0, 0, 0, 0, 0, 0, 0, 20};
        for (int what = 0; what < counts.length; what++) {
            due.is("count(" + what + "), asked first", new InkPad().count(what), counts[what]);
        }
        due.is("clearText(), asked first", new InkPad().clearText(), 0);
        due.is("clearPoints(), asked first", new InkPad().clearPoints(), 0);
        InkPad used = new InkPad();
        due.draws(used, 1, 3, 4);
        due.puts(used, 5, 6);
        due.types(used, "7,8");
        used.setGap(9);
        due.same("beside another pad", Look.through(new InkPad()),
                "count 0: 0; count 1: 0; count 2: 0; count 3: 0; count 4: 0; count 5: 0; "
                + "count 6: 0; count 7: 0; count 8: 0; count 9: 0; count 10: 20; "
                + "buffer -4text -100; buffer -4of 0");
        due.is("the other pad keeps its strokes", used.count(0), 1);
    }

    private static void coordinates(Due due) {
        due.about("Coordinates x (to the right) and y (downwards) are from 0 to 1000.");
        InkPad pad = new InkPad();
        due.is("put(0, 1000)", pad.put(0, 1000), 1);
        due.is("put(1000, 0)", pad.put(1000, 0), 2);
        due.is("put(-1, 500)", pad.put(-1, 500), InkPad.BAD_VALUE);
        due.is("put(1001, 500)", pad.put(1001, 500), InkPad.BAD_VALUE);
        due.is("put(500, -1)", pad.put(500, -1), InkPad.BAD_VALUE);
        due.is("put(500, 1001)", pad.put(500, 1001), InkPad.BAD_VALUE);
        due.is("put(least, 500)", pad.put(Integer.MIN_VALUE, 500), InkPad.BAD_VALUE);
        due.is("put(500, greatest)", pad.put(500, Integer.MAX_VALUE), InkPad.BAD_VALUE);
        due.is("draw(0)", pad.draw(0), 0);
        due.points("the edges", pad, 0, 0, 1000, 1000, 0);
    }

    private static void onePoint(Due due) {
        due.about("A stroke is a sequence of 1 to 24 points");
        InkPad pad = new InkPad();
        due.is("draw of no point", pad.draw(0), InkPad.NOT_POSSIBLE);
        due.is("draw of 1 point", due.draws(pad, 0, 8, 9), 0);
        due.points("one point", pad, 0, 8, 9);
    }

    private static void twentyFourPoints(Due due) {
        due.about("A stroke is a sequence of 1 to 24 points");
        InkPad pad = new InkPad();
        due.row(pad, 24, 100, 7);
        due.is("draw of 24 points", pad.draw(0), 0);
        due.is("its points", pad.stroke(0, 1), 24);
        for (int i = 0; i < 24; i++) {
            due.is("point(0, " + i + ", 0)", pad.point(0, i, 0), 100 + i);
            due.is("point(0, " + i + ", 1)", pad.point(0, i, 1), 7);
        }
        due.is("a 25th point by joining", due.draws(pad, 0, 9, 9), 1);
        due.is("join(0, 1)", pad.join(0, 1), InkPad.FULL);
    }

    private static void colors(Due due) {
        due.about("with a color from 0 to 3;");
        for (int color = 0; color <= 3; color++) {
            InkPad pad = new InkPad();
            due.is("draw(" + color + ")", due.draws(pad, color, 5, 5), 0);
            due.is("its color", pad.stroke(0, 0), color);
        }
        int[] wrong = {-1, 4, Integer.MIN_VALUE, Integer.MAX_VALUE};
        for (int color : wrong) {
            InkPad pad = new InkPad();
            due.is("draw(" + color + ")", due.draws(pad, color, 5, 5), InkPad.BAD_VALUE);
            due.is("strokes", pad.count(0), 0);
        }
    }

    private static void neighboursDiffer(Due due) {
        due.about("two points of a stroke that follow each other are different.");
        InkPad put = new InkPad();
        due.draws(put, 0, 1, 1, 1, 1, 2, 1, 2, 1, 2, 2, 1, 1);
        due.points("put", put, 0, 1, 1, 2, 1, 2, 2, 1, 1);
        InkPad read = new InkPad();
        due.reads(read, "1,1 1,1 2,1 2,2 2,2 1,1");
        due.is("draw(0)", read.draw(0), 0);
        due.points("read", read, 0, 1, 1, 2, 1, 2, 2, 1, 1);
        InkPad joined = new InkPad();
        due.draws(joined, 0, 1, 1, 2, 2);
        due.draws(joined, 0, 2, 2, 1, 1);
        due.is("join(0, 1)", joined.join(0, 1), 0);
        due.points("joined", joined, 0, 1, 1, 2, 2, 1, 1);
        InkPad smooth = new InkPad();
        due.draws(smooth, 0, 5, 5, 6, 5, 5, 5, 90, 90);
        due.is("smooth(0, 1)", smooth.smooth(0, 1), 3);
        due.points("smoothed", smooth, 0, 5, 5, 26, 26, 90, 90);
        InkPad thin = new InkPad();
        due.draws(thin, 0, 5, 5, 60, 5, 61, 5, 60, 5);
        due.is("thin(0, 9)", thin.thin(0, 9), 2);
        due.points("thinned", thin, 0, 5, 5, 60, 5);
    }

    private static void sixteenStrokes(Due due) {
        due.about("There are up to 16 strokes, numbered from 0.");
        InkPad pad = new InkPad();
        due.is("stroke(0, 2) of none", pad.stroke(0, 2), InkPad.UNKNOWN);
        due.column(pad, 16, 0, 70, 200);
        due.is("a 17th stroke", due.draws(pad, 0, 1, 1), InkPad.FULL);
        due.is("count(0)", pad.count(0), 16);
        for (int stroke = 0; stroke < 16; stroke++) {
            due.is("stroke(" + stroke + ", 4)", pad.stroke(stroke, 4), 200 + stroke);
        }
        due.is("stroke(16, 4)", pad.stroke(16, 4), InkPad.UNKNOWN);
        due.is("stroke(-1, 4)", pad.stroke(-1, 4), InkPad.UNKNOWN);
    }

    private static void leastAndGreatest(Due due) {
        due.about("The left, right, top and bottom of a stroke are the least and greatest x and y "
                + "of its points.");
        edges(due, 8, 8, 9, 9, 8, 9);
        edges(due, 0, 1000, 0, 1000, 0, 1000, 1000, 0);
        edges(due, 3, 60, 2, 70, 50, 40, 3, 70, 60, 2, 50, 40);
        // Each of them stands at the first point, then each at the last one.
        edges(due, 10, 30, 40, 90, 10, 40, 20, 60, 30, 90);
        edges(due, 10, 30, 40, 90, 30, 90, 20, 60, 10, 40);
        InkPad pad = new InkPad();
        due.row(pad, 24, 500, 5);
        due.is("draw(0)", pad.draw(0), 0);
        due.is("right, at the last of 24 points", pad.stroke(0, 3), 523);
        due.is("left", pad.stroke(0, 2), 500);
    }

    private static void edges(Due due, int left, int right, int top, int bottom, int... coordinates) {
        InkPad pad = new InkPad();
        due.draws(pad, 0, coordinates);
        due.is("left", pad.stroke(0, 2), left);
        due.is("right", pad.stroke(0, 3), right);
        due.is("top", pad.stroke(0, 4), top);
        due.is("bottom", pad.stroke(0, 5), bottom);
    }

    private static void allButTheFirst(Due due) {
        due.about("The length of a stroke is the sum, over all points but the first, of the root of "
                + "100 * (dx * dx + dy * dy), where dx and dy are the differences to the point before,");
        length(due, 0, 700, 800);
        length(due, 10, 700, 800, 701, 800);
        length(due, 10, 700, 800, 700, 799);
        length(due, 20, 700, 800, 701, 800, 700, 800);
        // Twice 14, not the root of what both are together, 28.28 with its part behind the point.
        length(due, 56, 0, 0, 1, 1, 2, 0, 3, 1, 4, 0);
        InkPad pad = new InkPad();
        due.row(pad, 24, 0, 0);
        due.is("draw(0)", pad.draw(0), 0);
        due.is("length of 24 points", pad.stroke(0, 6), 230);
    }

    private static void rootOfASquare(Due due) {
        due.about("and the root is the greatest integer whose square is at most that number.");
        length(due, 50, 0, 0, 3, 4);
        length(due, 290, 20, 21, 0, 0);
        length(due, 10000, 0, 0, 1000, 0);
        length(due, 9990, 0, 999, 0, 0);
        length(due, 10000, 0, 0, 600, 800);
    }

    private static void rootBesideASquare(Due due) {
        due.about("and the root is the greatest integer whose square is at most that number.");
        // 2600 is 51 * 51 - 1, and 203400 is 451 * 451 - 1.
        length(due, 50, 0, 0, 1, 5);
        length(due, 450, 0, 0, 45, 3);
        length(due, 14, 0, 0, 1, 1);
        length(due, 22, 0, 0, 2, 1);
        length(due, 31, 0, 0, 3, 1);
        length(due, 58, 0, 0, 3, 5);
    }

    private static void greatestRoots(Due due) {
        due.about("and the root is the greatest integer whose square is at most that number.");
        length(due, 14142, 0, 0, 1000, 1000);
        length(due, 14135, 1000, 1, 0, 1000);
        int[] coordinates = new int[48];
        for (int i = 0; i < 24; i++) {
            coordinates[2 * i] = i % 2 * 1000;
            coordinates[2 * i + 1] = i % 2 * 1000;
        }
        length(due, 23 * 14142, coordinates);
    }

    private static void length(Due due, int want, int... coordinates) {
        InkPad pad = new InkPad();
        due.draws(pad, 0, coordinates);
        due.is("stroke(0, 6)", pad.stroke(0, 6), want);
    }

    private static void emptyBuffer(Due due) {
        due.about("Points to be drawn are collected in a buffer of at most 24 points, which is empty "
                + "at first;");
        InkPad pad = new InkPad();
        due.is("count(7)", pad.count(7), 0);
        due.is("draw(0)", pad.draw(0), InkPad.NOT_POSSIBLE);
        // The place where a first point is like the points that an empty row holds.
        due.is("put(0, 0)", pad.put(0, 0), 1);
        due.is("count(7)", pad.count(7), 1);
    }

    private static void fullBuffer(Due due) {
        due.about("FULL if it has 24 points");
        InkPad pad = new InkPad();
        due.row(pad, 23, 0, 0);
        due.is("the 24th put", pad.put(500, 500), 24);
        due.is("the 25th put", pad.put(600, 600), InkPad.FULL);
        due.is("count(7)", pad.count(7), 24);
        due.is("draw(0)", pad.draw(0), 0);
        due.is("the last x", pad.point(0, 23, 0), 500);
        due.is("room again", pad.put(600, 600), 1);
    }

    private static void sameAsTheLast(Due due) {
        due.about("a point that is the same as the last one of the buffer is not added.");
        InkPad pad = new InkPad();
        due.is("put(4, 5)", pad.put(4, 5), 1);
        due.is("the same", pad.put(4, 5), 1);
        due.is("the same x", pad.put(4, 6), 2);
        due.is("the same y", pad.put(5, 6), 3);
        due.is("the same as the last but one", pad.put(4, 6), 4);
        due.is("the same as the first", pad.put(4, 5), 5);
        due.is("x and y changed", pad.put(5, 4), 6);
        due.row(pad, 17, 100, 100);
        due.is("the same as the 23rd", pad.put(116, 100), 23);
        due.is("then the 24th", pad.put(117, 100), 24);
        due.is("draw(0)", pad.draw(0), 0);
        due.is("the last one of a stroke does not count", pad.put(117, 100), 1);
    }

    private static void fullAndTheSame(Due due) {
        due.about("(also if the point is the same as the last one)");
        InkPad pad = new InkPad();
        due.row(pad, 24, 0, 0);
        due.is("put(23, 0)", pad.put(23, 0), InkPad.FULL);
    }

    private static void clearPoints(Due due) {
        due.about("Returns the number of points that it had.");
        InkPad pad = new InkPad();
        due.is("clearPoints() of none", pad.clearPoints(), 0);
        due.puts(pad, 3, 3);
        due.is("clearPoints() of 1", pad.clearPoints(), 1);
        due.is("clearPoints() again", pad.clearPoints(), 0);
        due.is("draw(0)", pad.draw(0), InkPad.NOT_POSSIBLE);
        due.is("the same as the last one cleared", pad.put(3, 3), 1);
        due.row(pad, 23, 100, 3);
        due.is("clearPoints() of 24", pad.clearPoints(), 24);
        due.is("room again", pad.put(9, 9), 1);
        due.is("draw(0)", pad.draw(0), 0);
        due.points("drawn then", pad, 0, 9, 9);
    }

    private static void stroke(Due due) {
        due.about("0 for its color, 1 for the number of its points, 2 for its left, 3 for its right, "
                + "4 for its top, 5 for its bottom, 6 for its length, 7 for its line, 8 for its word, "
                + "9 for its place in the reading order");
        InkPad pad = new InkPad();
        due.draws(pad, 3, 30, 47, 34, 44);
        int[] wanted = {3, 2, 30, 34, 44, 47, 50, 0, 0, 0};
        for (int what = 0; what < wanted.length; what++) {
            due.is("stroke(0, " + what + ")", pad.stroke(0, what), wanted[what]);
        }
        due.is("stroke(0, -1)", pad.stroke(0, -1), InkPad.BAD_VALUE);
        due.is("stroke(0, 10)", pad.stroke(0, 10), InkPad.BAD_VALUE);
        due.is("stroke(0, least)", pad.stroke(0, Integer.MIN_VALUE), InkPad.BAD_VALUE);
        due.is("stroke(0, greatest)", pad.stroke(0, Integer.MAX_VALUE), InkPad.BAD_VALUE);
        due.is("stroke(1, 0)", pad.stroke(1, 0), InkPad.UNKNOWN);
        due.is("stroke(-1, 0)", pad.stroke(-1, 0), InkPad.UNKNOWN);
        due.is("remove(0)", pad.remove(0), 0);
        due.is("stroke(0, 0) of one that is gone", pad.stroke(0, 0), InkPad.UNKNOWN);
    }

    private static void point(Due due) {
        due.about("a point of it, from 0");
        InkPad pad = new InkPad();
        due.draws(pad, 0, 11, 12, 13, 14);
        due.draws(pad, 0, 21, 22);
        due.is("point(0, 0, 0)", pad.point(0, 0, 0), 11);
        due.is("point(0, 0, 1)", pad.point(0, 0, 1), 12);
        due.is("point(0, 1, 0)", pad.point(0, 1, 0), 13);
        due.is("point(0, 1, 1)", pad.point(0, 1, 1), 14);
        due.is("point(0, -1, 0)", pad.point(0, -1, 0), InkPad.UNKNOWN);
        due.is("point(0, 2, 0)", pad.point(0, 2, 0), InkPad.UNKNOWN);
        due.is("point(1, 0, 0)", pad.point(1, 0, 0), 21);
        due.is("point(1, 1, 0), which only stroke 0 has", pad.point(1, 1, 0), InkPad.UNKNOWN);
        due.is("point(2, 0, 0)", pad.point(2, 0, 0), InkPad.UNKNOWN);
        due.is("point(-1, 0, 0)", pad.point(-1, 0, 0), InkPad.UNKNOWN);
        due.is("point(0, 0, -1)", pad.point(0, 0, -1), InkPad.BAD_VALUE);
        due.is("point(0, 0, 2)", pad.point(0, 0, 2), InkPad.BAD_VALUE);
        due.is("point(0, least, 0)", pad.point(0, Integer.MIN_VALUE, 0), InkPad.UNKNOWN);
        due.is("point(0, greatest, 0)", pad.point(0, Integer.MAX_VALUE, 0), InkPad.UNKNOWN);
        InkPad full = new InkPad();
        due.row(full, 24, 1, 1);
        due.is("draw(0)", full.draw(0), 0);
        due.is("point(0, 23, 0)", full.point(0, 23, 0), 24);
        due.is("point(0, 24, 0)", full.point(0, 24, 0), InkPad.UNKNOWN);
    }
}
