/** The edges of rubbing, a test for each sentence (promise 8). */
public final class RubEdgesTest {
    public static void main(String[] args) {
        Due due = new Due();
        atMostTheRadius(due);
        leastRadius(due);
        greatestRadius(due);
        partsThatFollowed(due);
        theirOrderAndColor(due);
        partsStayApart(due);
        withoutPoints(due);
        numbersBehind(due);
        arguments(due);
        pointsRubbedOut(due);
        sixteenThen(due);
        moreThanSixteen(due);
        manyParts(due);
        fullChangesNothing(due);
        noPoint(due);
        behindOtherCalls(due);
        due.end();
    }

    private static void atMostTheRadius(Due due) {
        due.about("A circle with a middle and a radius rubs out all points whose distance from the "
                + "middle is at most the radius.");
        // The squares of the distances are 25, 26, 25, 20, 29.
        InkPad pad = new InkPad();
        due.draws(pad, 0, 103, 104, 105, 101, 95, 100, 98, 96, 98, 105);
        due.is("rub(100, 100, 5)", pad.rub(100, 100, 5), 3);
        due.same("after rub(100, 100, 5)", Look.strokes(pad), "0 of 0: 105,101; 1 of 0: 98,105; ");
        InkPad below = new InkPad();
        due.draws(below, 0, 103, 104);
        due.is("rub(100, 100, 4)", below.rub(100, 100, 4), InkPad.NONE);
        // 7 and 7 are 98 together, 7 and 8 are 113; ten times ten is 100.
        InkPad slant = new InkPad();
        due.draws(slant, 0, 507, 493, 508, 493, 507, 492);
        due.is("rub(500, 500, 10)", slant.rub(500, 500, 10), 1);
        due.points("after rub(500, 500, 10)", slant, 0, 508, 493, 507, 492);
    }

    private static void leastRadius(Due due) {
        due.about("0 to 500");
        InkPad pad = new InkPad();
        due.draws(pad, 0, 49, 50, 50, 50, 51, 50, 50, 49, 50, 51);
        due.is("rub(50, 50, -1)", pad.rub(50, 50, -1), InkPad.BAD_VALUE);
        due.is("rub(50, 50, 0)", pad.rub(50, 50, 0), 1);
        due.same("after rub(50, 50, 0)", Look.strokes(pad),
                "0 of 0: 49,50; 1 of 0: 51,50 50,49 50,51; ");
        due.is("rub(50, 50, 0) again", pad.rub(50, 50, 0), InkPad.NONE);
        due.is("rub(50, 50, 1)", pad.rub(50, 50, 1), 4);
    }

    private static void greatestRadius(Due due) {
        due.about("0 to 500");
        InkPad pad = new InkPad();
        due.draws(pad, 0, 300, 400, 300, 401, 500, 0, 0, 501, 501, 0);
        due.is("rub(0, 0, 501)", pad.rub(0, 0, 501), InkPad.BAD_VALUE);
        due.is("rub(0, 0, 499)", pad.rub(0, 0, 499), InkPad.NONE);
        due.is("rub(0, 0, 500)", pad.rub(0, 0, 500), 2);
        due.same("after rub(0, 0, 500)", Look.strokes(pad), "0 of 0: 300,401; 1 of 0: 0,501 501,0; ");
    }

    private static void partsThatFollowed(Due due) {
        due.about("A stroke of which points are rubbed out is replaced by its parts, the longest "
                + "sequences of points that are left and followed each other in it,");
        parts(due, "the first gone", "0 of 1: 20,0 30,0; ", 1, 10, 0, 20, 0, 30, 0);
        parts(due, "the last gone", "0 of 1: 20,0 30,0; ", 1, 20, 0, 30, 0, 10, 0);
        parts(due, "one of the middle", "0 of 1: 20,0; 1 of 1: 30,0; ", 1, 20, 0, 10, 0, 30, 0);
        parts(due, "two in a row leave no part between", "0 of 1: 20,0; 1 of 1: 30,0; ", 2,
                20, 0, 10, 0, 11, 0, 30, 0);
        parts(due, "first and last", "0 of 1: 20,0; ", 2, 10, 0, 20, 0, 10, 0);
        parts(due, "two first and two last", "0 of 1: 20,0; ", 4, 10, 0, 11, 0, 20, 0, 11, 0, 10, 0);
        parts(due, "every other one", "0 of 1: 20,0; 1 of 1: 30,0; 2 of 1: 40,0; ", 2,
                20, 0, 10, 0, 30, 0, 10, 0, 40, 0);
        parts(due, "longer ones", "0 of 1: 20,0 21,0; 1 of 1: 30,0 31,0 32,0; ", 1,
                20, 0, 21, 0, 10, 0, 30, 0, 31, 0, 32, 0);
    }

    /** Rubs out what is within 1 of (10, 0) from a stroke. */
    private static void parts(Due due, String name, String want, int rubbed, int... coordinates) {
        InkPad pad = new InkPad();
        due.draws(pad, 1, coordinates);
        due.is(name + ": rub(10, 0, 1)", pad.rub(10, 0, 1), rubbed);
        due.same(name, Look.strokes(pad), want);
    }

    private static void theirOrderAndColor(Due due) {
        due.about("in their order, with its color;");
        InkPad pad = new InkPad();
        due.draws(pad, 2, 900, 0, 10, 0, 30, 0, 10, 0, 500, 0);
        due.draws(pad, 3, 20, 0, 10, 0, 15, 0);
        due.draws(pad, 0, 90, 9);
        due.is("rub(10, 0, 0)", pad.rub(10, 0, 0), 3);
        due.same("after rub(10, 0, 0)", Look.strokes(pad), "0 of 2: 900,0; 1 of 2: 30,0; "
                + "2 of 2: 500,0; 3 of 3: 20,0; 4 of 3: 15,0; 5 of 0: 90,9; ");
    }

    private static void partsStayApart(Due due) {
        due.about("the longest sequences of points that are left and followed each other in it,");
        InkPad pad = new InkPad();
        due.draws(pad, 0, 7, 7, 10, 10, 7, 7);
        due.draws(pad, 0, 7, 7);
        due.is("rub(10, 10, 1)", pad.rub(10, 10, 1), 1);
        due.same("parts of the same point", Look.strokes(pad), "0 of 0: 7,7; 1 of 0: 7,7; 2 of 0: 7,7; ");
    }

    private static void withoutPoints(Due due) {
        due.about("a stroke without points left is gone.");
        InkPad pad = new InkPad();
        due.draws(pad, 0, 1, 1, 2, 2);
        due.draws(pad, 1, 600, 600);
        due.draws(pad, 2, 1, 1);
        due.is("rub(1, 1, 5)", pad.rub(1, 1, 5), 3);
        due.same("one is left", Look.strokes(pad), "0 of 1: 600,600; ");
        due.is("rub(600, 600, 0)", pad.rub(600, 600, 0), 1);
        due.is("none is left", pad.count(0), 0);
        due.is("stroke(0, 1)", pad.stroke(0, 1), InkPad.UNKNOWN);
        due.is("nearest(0, 0)", pad.nearest(0, 0), InkPad.NONE);
    }

    private static void numbersBehind(Due due) {
        due.about("The parts take the place of the stroke; the numbers of the strokes behind change "
                + "accordingly.");
        InkPad more = new InkPad();
        due.draws(more, 0, 100, 0);
        due.draws(more, 1, 20, 0, 10, 0, 30, 0);
        due.draws(more, 2, 200, 0);
        due.draws(more, 3, 300, 0);
        due.is("rub(10, 0, 0)", more.rub(10, 0, 0), 1);
        due.same("greater by 1", Look.strokes(more),
                "0 of 0: 100,0; 1 of 1: 20,0; 2 of 1: 30,0; 3 of 2: 200,0; 4 of 3: 300,0; ");
        InkPad less = new InkPad();
        due.draws(less, 0, 100, 0);
        due.draws(less, 1, 10, 0);
        due.draws(less, 2, 200, 0);
        due.is("rub(10, 0, 0)", less.rub(10, 0, 0), 1);
        due.same("less by 1", Look.strokes(less), "0 of 0: 100,0; 1 of 2: 200,0; ");
        InkPad both = new InkPad();
        due.draws(both, 0, 10, 0);
        due.draws(both, 1, 100, 0, 10, 0, 101, 0);
        due.draws(both, 2, 200, 0);
        due.is("rub(10, 0, 0)", both.rub(10, 0, 0), 2);
        due.same("one gone, one more", Look.strokes(both), "0 of 1: 100,0; 1 of 1: 101,0; 2 of 2: 200,0; ");
    }

    private static void arguments(Due due) {
        due.about("x of its middle, 0 to 1000");
        InkPad pad = new InkPad();
        due.draws(pad, 0, 0, 0, 1000, 0, 0, 1000, 1000, 1000);
        due.is("rub(-1, 0, 1)", pad.rub(-1, 0, 1), InkPad.BAD_VALUE);
        due.is("rub(1001, 0, 1)", pad.rub(1001, 0, 1), InkPad.BAD_VALUE);
        due.is("rub(least, 0, 1)", pad.rub(Integer.MIN_VALUE, 0, 1), InkPad.BAD_VALUE);
        due.is("rub(greatest, 0, 1)", pad.rub(Integer.MAX_VALUE, 0, 1), InkPad.BAD_VALUE);
        due.about("y of its middle, 0 to 1000");
        due.is("rub(0, -1, 1)", pad.rub(0, -1, 1), InkPad.BAD_VALUE);
        due.is("rub(0, 1001, 1)", pad.rub(0, 1001, 1), InkPad.BAD_VALUE);
        due.is("rub(0, least, 1)", pad.rub(0, Integer.MIN_VALUE, 1), InkPad.BAD_VALUE);
        due.is("rub(0, greatest, 1)", pad.rub(0, Integer.MAX_VALUE, 1), InkPad.BAD_VALUE);
        due.is("rub(0, 0, least)", pad.rub(0, 0, Integer.MIN_VALUE), InkPad.BAD_VALUE);
        due.is("rub(0, 0, greatest)", pad.rub(0, 0, Integer.MAX_VALUE), InkPad.BAD_VALUE);
        due.is("points", pad.count(1), 4);
        due.is("rub(0, 1000, 0)", pad.rub(0, 1000, 0), 1);
        due.is("rub(1000, 0, 0)", pad.rub(1000, 0, 0), 1);
        due.is("rub(0, 0, 0)", pad.rub(0, 0, 0), 1);
        due.is("rub(1000, 1000, 0)", pad.rub(1000, 1000, 0), 1);
    }

    private static void pointsRubbedOut(Due due) {
        due.about("Returns the number of points that are rubbed out;");
        InkPad pad = new InkPad();
        due.row(pad, 24, 100, 0);
        due.is("draw(0)", pad.draw(0), 0);
        due.row(pad, 24, 100, 1);
        due.is("draw(1)", pad.draw(1), 1);
        due.is("rub(111, 0, 500)", pad.rub(111, 0, 500), 48);
        due.is("count(0)", pad.count(0), 0);
    }

    private static void sixteenThen(Due due) {
        due.about("FULL if there would be more than 16 strokes then;");
        InkPad split = new InkPad();
        due.draws(split, 0, 20, 0, 10, 0, 30, 0);
        due.column(split, 14, 1, 900, 0);
        due.is("15 strokes, one more part", split.rub(10, 0, 0), 1);
        due.is("count(0)", split.count(0), 16);
        due.is("the last one", split.stroke(15, 4), 13);
        // The 16 are counted when all are rubbed: one stroke splits, one goes, in both orders.
        InkPad first = new InkPad();
        due.draws(first, 0, 20, 0, 10, 0, 30, 0);
        due.column(first, 14, 1, 900, 0);
        due.draws(first, 2, 10, 0);
        due.is("16 strokes, one splits, the last goes", first.rub(10, 0, 0), 2);
        due.is("count(0)", first.count(0), 16);
        due.is("the last one", first.stroke(15, 4), 13);
        InkPad last = new InkPad();
        due.draws(last, 2, 10, 0);
        due.column(last, 14, 1, 900, 0);
        due.draws(last, 0, 20, 0, 10, 0, 30, 0);
        due.is("16 strokes, the first goes, one splits", last.rub(10, 0, 0), 2);
        due.is("count(0)", last.count(0), 16);
        due.is("the last one", last.stroke(15, 2), 30);
        InkPad end = new InkPad();
        due.column(end, 15, 1, 900, 0);
        due.draws(end, 0, 20, 0, 10, 0);
        due.is("16 strokes, one grows shorter", end.rub(10, 0, 0), 1);
        due.is("count(0)", end.count(0), 16);
    }

    private static void moreThanSixteen(Due due) {
        due.about("FULL if there would be more than 16 strokes then;");
        InkPad last = new InkPad();
        due.column(last, 15, 1, 900, 0);
        due.draws(last, 0, 20, 0, 10, 0, 30, 0);
        due.is("the last of 16 splits", last.rub(10, 0, 0), InkPad.FULL);
        InkPad first = new InkPad();
        due.draws(first, 0, 20, 0, 10, 0, 30, 0);
        due.column(first, 15, 1, 900, 0);
        due.is("the first of 16 splits", first.rub(10, 0, 0), InkPad.FULL);
        InkPad three = new InkPad();
        due.draws(three, 0, 20, 0, 10, 0, 30, 0, 10, 0, 40, 0);
        due.column(three, 14, 1, 900, 0);
        due.is("one of 15 splits into 3", three.rub(10, 0, 0), InkPad.FULL);
        InkPad inside = new InkPad();
        due.column(inside, 15, 1, 900, 0);
        due.draws(inside, 0, 20, 0, 10, 0, 30, 0, 10, 0);
        due.is("the last of 16 splits and ends rubbed", inside.rub(10, 0, 0), InkPad.FULL);
    }

    private static void manyParts(Due due) {
        due.about("FULL if there would be more than 16 strokes then;");
        InkPad pad = new InkPad();
        comb(due, pad, 24);
        due.is("12 parts of 24 points", pad.rub(10, 0, 0), 12);
        due.is("count(0)", pad.count(0), 12);
        due.is("undo()", pad.undo(), 1);
        comb(due, pad, 8);
        due.is("12 and 4 parts", pad.rub(10, 0, 0), 16);
        due.is("count(0)", pad.count(0), 16);
        due.is("undo()", pad.undo(), 2);
        due.draws(pad, 0, 55, 55);
        due.is("12, 4 and 1", pad.rub(10, 0, 0), InkPad.FULL);
        due.is("remove(2)", pad.remove(2), 2);
        comb(due, pad, 24);
        due.is("12, 4 and 12", pad.rub(10, 0, 0), InkPad.FULL);
    }

    /** Draws a stroke of which every other point, the last one too, is (10, 0). */
    private static void comb(Due due, InkPad pad, int points) {
        int[] coordinates = new int[2 * points];
        for (int i = 0; i < points; i++) {
            coordinates[2 * i] = i % 2 == 0 ? 100 + i : 10;
        }
        due.draws(pad, 1, coordinates);
    }

    private static void fullChangesNothing(Due due) {
        due.about("A call that reports an error or NONE changes nothing.");
        InkPad pad = new InkPad();
        due.draws(pad, 1, 10, 0, 11, 0);
        due.draws(pad, 0, 20, 0, 10, 0, 30, 0, 10, 0, 40, 0);
        due.column(pad, 14, 2, 900, 0);
        String before = Look.strokes(pad);
        due.is("one shorter, one into 3", pad.rub(10, 0, 0), InkPad.FULL);
        due.same("after FULL", Look.strokes(pad), before);
        due.is("count(8)", pad.count(8), 6);
        due.is("rub(30, 0, 0), another place", pad.rub(30, 0, 0), InkPad.FULL);
        due.is("rub(10, 0, 1), with one gone", pad.rub(10, 0, 1), InkPad.FULL);
        due.is("rub(20, 0, 0), the first point", pad.rub(20, 0, 0), 1);
        due.is("count(0)", pad.count(0), 16);
    }

    private static void noPoint(Due due) {
        due.about("NONE if no point is rubbed out.");
        InkPad pad = new InkPad();
        due.is("rub of an empty pad", pad.rub(500, 500, 500), InkPad.NONE);
        due.puts(pad, 500, 500);
        due.is("points of the buffer are not rubbed out", pad.rub(500, 500, 500), InkPad.NONE);
        due.is("count(7)", pad.count(7), 1);
        due.is("draw(0)", pad.draw(0), 0);
        due.is("beside the point", pad.rub(502, 500, 1), InkPad.NONE);
        due.is("count(8)", pad.count(8), 1);
        // A circle across a stroke that has no point in it.
        due.draws(pad, 0, 0, 0, 1000, 0);
        due.is("between two points", pad.rub(500, 0, 499), InkPad.NONE);
    }

    private static void behindOtherCalls(Due due) {
        due.about("A call that reports an error or NONE changes nothing.");
        InkPad pad = new InkPad();
        due.draws(pad, 1, 100, 100, 200, 100);
        due.draws(pad, 2, 300, 300, 400, 300, 500, 300);
        String want = "0 of 1: 100,100; 1 of 2: 300,300 400,300 500,300; ";
        // What these calls looked at is no part of a stroke that is rubbed behind them.
        due.is("smooth(1, 1)", pad.smooth(1, 1), InkPad.NONE);
        due.is("rub(200, 100, 0)", pad.rub(200, 100, 0), 1);
        due.same("behind smooth", Look.strokes(pad), want);
        due.is("undo()", pad.undo(), 2);
        due.is("readPoints()", due.reads(pad, "1,1 2,2 3"), -109);
        due.is("rub(200, 100, 0)", pad.rub(200, 100, 0), 1);
        due.same("behind readPoints", Look.strokes(pad), want);
        due.is("undo()", pad.undo(), 2);
        due.is("thin(1, 100)", pad.thin(1, 100), InkPad.NONE);
        due.is("rub(600, 300, 0)", pad.rub(600, 300, 0), InkPad.NONE);
        due.is("rub(200, 100, 0)", pad.rub(200, 100, 0), 1);
        due.same("behind thin", Look.strokes(pad), want);
    }
}
