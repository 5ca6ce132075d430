/** The edges of draw, join, shift, paint and remove, a test for each sentence (7, 11 to 14). */
public final class ActEdgesTest {
    public static void main(String[] args) {
        Due due = new Due();
        emptyThen(due);
        emptyBuffer(due);
        noRoom(due);
        drawnNumber(due);
        joinKeepsItsColor(due);
        firstLeftOut(due);
        nothingButTheSame(due);
        appendedIsGone(due);
        joinedNumber(due);
        both(due);
        atMostTwentyFour(due);
        joinUnknown(due);
        shiftToTheEdges(due);
        shiftRange(due);
        leaveTheCoordinates(due);
        everyPointCounts(due);
        shiftByNothing(due);
        shiftAnswers(due);
        previousColor(due);
        paintColors(due);
        sameColor(due);
        paintUnknown(due);
        behindIt(due);
        removeFromAFullPad(due);
        removeTheLast(due);
        due.end();
    }

    private static void emptyThen(Due due) {
        due.about("Draws a stroke with the points of the buffer, which is empty then.");
        InkPad pad = new InkPad();
        due.row(pad, 24, 5, 6);
        due.is("draw(2)", pad.draw(2), 0);
        due.is("count(7)", pad.count(7), 0);
        due.is("draw(2) again", pad.draw(2), InkPad.NOT_POSSIBLE);
        due.is("a first point that is the last one of the stroke", pad.put(28, 6), 1);
        due.is("draw(1)", pad.draw(1), 1);
        due.points("the second", pad, 1, 28, 6);
        due.is("points of the first", pad.stroke(0, 1), 24);
    }

    private static void emptyBuffer(Due due) {
        due.about("NOT_POSSIBLE if the buffer is empty;");
        InkPad pad = new InkPad();
        due.is("of a new pad", pad.draw(0), InkPad.NOT_POSSIBLE);
        due.puts(pad, 1, 1);
        due.is("clearPoints()", pad.clearPoints(), 1);
        due.is("of a cleared buffer", pad.draw(0), InkPad.NOT_POSSIBLE);
        due.is("strokes", pad.count(0), 0);
        due.is("states", pad.count(8), 0);
        due.is("of one point", due.draws(pad, 0, 1, 1), 0);
    }

    private static void noRoom(Due due) {
        due.about("FULL if there are 16 strokes.");
        InkPad pad = new InkPad();
        due.column(pad, 15, 0, 100, 100);
        due.is("the 16th", due.draws(pad, 0, 1, 1), 15);
        due.puts(pad, 2, 2, 3, 3);
        due.is("the 17th", pad.draw(0), InkPad.FULL);
        due.is("the buffer stays", pad.count(7), 2);
        due.is("remove(3)", pad.remove(3), 15);
        due.is("the 16th again", pad.draw(0), 15);
        due.points("the 16th again", pad, 15, 2, 2, 3, 3);
    }

    private static void drawnNumber(Due due) {
        due.about("Returns its number;");
        InkPad pad = new InkPad();
        due.is("the first", due.draws(pad, 0, 1, 1), 0);
        due.is("the second", due.draws(pad, 1, 2, 2), 1);
        due.is("remove(0)", pad.remove(0), 1);
        due.is("behind one", due.draws(pad, 2, 3, 3), 1);
        due.is("undo()", pad.undo(), 3);
        due.is("undo()", pad.undo(), 2);
        due.is("behind two that are back", due.draws(pad, 3, 4, 4), 2);
        due.same("drawn", Look.strokes(pad), "0 of 0: 1,1; 1 of 1: 2,2; 2 of 3: 4,4; ");
    }

    private static void joinKeepsItsColor(Due due) {
        due.about("Appends the points of a stroke to another one, which keeps its color");
        InkPad pad = new InkPad();
        due.draws(pad, 3, 1, 1, 2, 2);
        due.draws(pad, 0, 5, 5, 6, 6, 7, 7);
        due.is("join(0, 1)", pad.join(0, 1), 0);
        due.same("joined", Look.strokes(pad), "0 of 3: 1,1 2,2 5,5 6,6 7,7; ");
        due.is("undo()", pad.undo(), 2);
        due.is("join(1, 0)", pad.join(1, 0), 0);
        due.same("joined the other way", Look.strokes(pad), "0 of 0: 5,5 6,6 7,7 1,1 2,2; ");
    }

    private static void firstLeftOut(Due due) {
        due.about("(if the first one of them is the same as the last point of the stroke to which they "
                + "are appended, it is left out)");
        joins(due, "the same", "0 of 1: 8,8 4,5 9,9; ", at(8, 8, 4, 5), at(4, 5, 9, 9));
        joins(due, "the same x", "0 of 1: 8,8 4,5 4,6 9,9; ", at(8, 8, 4, 5), at(4, 6, 9, 9));
        joins(due, "the same y", "0 of 1: 8,8 4,5 3,5 9,9; ", at(8, 8, 4, 5), at(3, 5, 9, 9));
        joins(due, "one left out alone", "0 of 1: 8,8 4,5 9,9 4,5; ", at(8, 8, 4, 5), at(4, 5, 9, 9, 4, 5));
        joins(due, "the first of the stroke", "0 of 1: 4,5 8,8 4,5 9,9; ", at(4, 5, 8, 8), at(4, 5, 9, 9));
        joins(due, "the last of the appended", "0 of 1: 8,8 4,5 9,9 4,5; ", at(8, 8, 4, 5), at(9, 9, 4, 5));
        // The second one of them decides nothing.
        joins(due, "the same x, the second's y", "0 of 1: 8,8 4,5 4,6 9,5; ", at(8, 8, 4, 5), at(4, 6, 9, 5));
        joins(due, "the same y, the second's x", "0 of 1: 8,8 4,5 3,5 4,9; ", at(8, 8, 4, 5), at(3, 5, 4, 9));
        joins(due, "the second the same", "0 of 1: 8,8 4,5 3,3 4,5; ", at(8, 8, 4, 5), at(3, 3, 4, 5));
        joins(due, "single points", "0 of 1: 4,5 5,4; ", at(4, 5), at(5, 4));
        joins(due, "at the origin", "0 of 1: 7,7 0,0; ", at(7, 7), at(0, 0));
    }

    private static int[] at(int... coordinates) {
        return coordinates;
    }

    private static void joins(Due due, String name, String want, int[] stroke, int[] other) {
        InkPad pad = new InkPad();
        due.draws(pad, 1, stroke);
        due.draws(pad, 2, other);
        due.is(name + ": join(0, 1)", pad.join(0, 1), 0);
        due.same(name, Look.strokes(pad), want);
        due.is(name + ": count(8)", pad.count(8), 3);
    }

    private static void nothingButTheSame(Due due) {
        due.about("the appended stroke is gone.");
        InkPad pad = new InkPad();
        due.draws(pad, 1, 8, 8, 4, 5);
        due.draws(pad, 2, 4, 5);
        due.is("join(0, 1)", pad.join(0, 1), 0);
        due.same("joined", Look.strokes(pad), "0 of 1: 8,8 4,5; ");
        due.is("it is an act", pad.undo(), 2);
        due.same("undone", Look.strokes(pad), "0 of 1: 8,8 4,5; 1 of 2: 4,5; ");
    }

    private static void appendedIsGone(Due due) {
        due.about("the appended stroke is gone.");
        InkPad pad = new InkPad();
        due.column(pad, 4, 1, 10, 10);
        due.is("join(1, 3), the last", pad.join(1, 3), 1);
        due.same("then", Look.strokes(pad), "0 of 1: 10,10; 1 of 1: 10,11 10,13; 2 of 1: 10,12; ");
        due.is("join(1, 0), the first", pad.join(1, 0), 0);
        due.same("then", Look.strokes(pad), "0 of 1: 10,11 10,13 10,10; 1 of 1: 10,12; ");
    }

    private static void joinedNumber(Due due) {
        due.about("Returns the number of the joined stroke then;");
        int[][] wanted = {{0, 1, 0}, {0, 2, 0}, {1, 0, 0}, {1, 2, 1}, {2, 0, 1}, {2, 1, 1}};
        for (int[] row : wanted) {
            InkPad pad = new InkPad();
            due.column(pad, 3, 1, 10, 10);
            due.is("join(" + row[0] + ", " + row[1] + ")", pad.join(row[0], row[1]), row[2]);
            due.points("joined", pad, row[2], 10, 10 + row[0], 10, 10 + row[1]);
        }
        InkPad full = new InkPad();
        due.column(full, 16, 1, 10, 10);
        due.is("join(15, 0)", full.join(15, 0), 14);
        due.points("joined", full, 14, 10, 25, 10, 10);
        due.is("join(0, 14)", full.join(0, 14), 0);
        due.is("count(0)", full.count(0), 14);
    }

    private static void both(Due due) {
        due.about("BAD_VALUE if both are the same;");
        InkPad pad = new InkPad();
        due.draws(pad, 1, 1, 1);
        due.draws(pad, 1, 2, 2);
        due.is("join(0, 0)", pad.join(0, 0), InkPad.BAD_VALUE);
        due.is("join(1, 1)", pad.join(1, 1), InkPad.BAD_VALUE);
        due.is("join(2, 2)", pad.join(2, 2), InkPad.UNKNOWN);
        due.is("strokes", pad.count(0), 2);
        // Another stroke that looks the same is another stroke.
        InkPad twins = new InkPad();
        due.draws(twins, 1, 1, 1, 2, 2);
        due.draws(twins, 1, 1, 1, 2, 2);
        due.is("join(0, 1) of twins", twins.join(0, 1), 0);
        due.points("twins", twins, 0, 1, 1, 2, 2, 1, 1, 2, 2);
    }

    private static void atMostTwentyFour(Due due) {
        due.about("FULL if it would have more than 24 points.");
        joinsRows(due, 12, 12, 0, 24);
        joinsRows(due, 12, 13, 0, InkPad.FULL);
        joinsRows(due, 13, 12, 0, InkPad.FULL);
        joinsRows(due, 23, 1, 0, 24);
        joinsRows(due, 24, 1, 0, InkPad.FULL);
        joinsRows(due, 1, 23, 0, 24);
        joinsRows(due, 1, 24, 0, InkPad.FULL);
        joinsRows(due, 24, 24, 0, InkPad.FULL);
        // With one that is left out.
        joinsRows(due, 12, 13, 1, 24);
        joinsRows(due, 12, 14, 1, InkPad.FULL);
        joinsRows(due, 24, 1, 1, 24);
        joinsRows(due, 24, 2, 1, InkPad.FULL);
        joinsRows(due, 1, 24, 1, 24);
    }

    /** Joins two rows of points of which so many are the same at the seam. */
    private static void joinsRows(Due due, int points, int others, int same, int want) {
        InkPad pad = new InkPad();
        due.row(pad, points, 0, 0);
        due.is("draw(0)", pad.draw(0), 0);
        due.row(pad, others, points - same, 0);
        due.is("draw(1)", pad.draw(1), 1);
        String call = "join of " + points + " and " + others + " points";
        due.is(call, pad.join(0, 1), want < 0 ? want : 0);
        due.is(call + ": points", pad.stroke(0, 1), want < 0 ? points : want);
        due.is(call + ": the last", pad.point(0, pad.stroke(0, 1) - 1, 0), pad.stroke(0, 1) - 1);
        due.is(call + ": strokes", pad.count(0), want < 0 ? 2 : 1);
        due.is(call + ": count(8)", pad.count(8), want < 0 ? 2 : 3);
    }

    private static void joinUnknown(Due due) {
        due.about("the stroke to which points are appended");
        InkPad pad = new InkPad();
        due.is("join(0, 1) of none", pad.join(0, 1), InkPad.UNKNOWN);
        due.draws(pad, 1, 1, 1);
        due.draws(pad, 1, 2, 2);
        int[] wrong = {-1, 2, 16, Integer.MIN_VALUE, Integer.MAX_VALUE};
        for (int stroke : wrong) {
            due.is("join(" + stroke + ", 1)", pad.join(stroke, 1), InkPad.UNKNOWN);
            due.is("join(1, " + stroke + ")", pad.join(1, stroke), InkPad.UNKNOWN);
        }
        due.is("strokes", pad.count(0), 2);
    }

    private static void shiftToTheEdges(Due due) {
        due.about("Moves a stroke.");
        InkPad pad = new InkPad();
        due.draws(pad, 2, 10, 20, 990, 970);
        due.draws(pad, 3, 10, 20);
        due.is("to the left", pad.shift(0, -10, 0), 2);
        due.is("up", pad.shift(0, 0, -20), 2);
        due.points("left and up", pad, 0, 0, 0, 980, 950);
        due.is("to the right and down", pad.shift(0, 20, 50), 2);
        due.same("at the edges", Look.strokes(pad), "0 of 2: 20,50 1000,1000; 1 of 3: 10,20; ");
        due.is("by one", pad.shift(0, -1, 0), 2);
        due.is("by one", pad.shift(0, 0, -1), 2);
        due.is("by one", pad.shift(0, 1, 1), 2);
        due.points("back at the edges", pad, 0, 20, 50, 1000, 1000);
    }

    private static void shiftRange(Due due) {
        due.about("-1000 to 1000");
        InkPad pad = new InkPad();
        due.draws(pad, 0, 0, 1000);
        due.is("shift(0, 1000, -1000)", pad.shift(0, 1000, -1000), 1);
        due.points("across", pad, 0, 1000, 0);
        due.is("shift(0, -1000, 1000)", pad.shift(0, -1000, 1000), 1);
        due.points("back", pad, 0, 0, 1000);
        int[] wrong = {-1001, 1001, Integer.MIN_VALUE, Integer.MAX_VALUE};
        for (int by : wrong) {
            due.is("shift(0, " + by + ", 0)", pad.shift(0, by, 0), InkPad.BAD_VALUE);
            due.is("shift(0, 0, " + by + ")", pad.shift(0, 0, by), InkPad.BAD_VALUE);
        }
        due.points("where it was", pad, 0, 0, 1000);
    }

    private static void leaveTheCoordinates(Due due) {
        due.about("NOT_POSSIBLE if a point would leave the coordinates;");
        InkPad pad = new InkPad();
        due.draws(pad, 0, 10, 20, 990, 970);
        due.is("one too far left", pad.shift(0, -11, 0), InkPad.NOT_POSSIBLE);
        due.is("one too far right", pad.shift(0, 11, 0), InkPad.NOT_POSSIBLE);
        due.is("one too far up", pad.shift(0, 0, -21), InkPad.NOT_POSSIBLE);
        due.is("one too far down", pad.shift(0, 0, 31), InkPad.NOT_POSSIBLE);
        due.is("x fits, y does not", pad.shift(0, -10, 31), InkPad.NOT_POSSIBLE);
        due.is("y fits, x does not", pad.shift(0, 11, -20), InkPad.NOT_POSSIBLE);
        due.is("as far as can be", pad.shift(0, -1000, 1000), InkPad.NOT_POSSIBLE);
        due.points("where it was", pad, 0, 10, 20, 990, 970);
        due.is("count(8)", pad.count(8), 1);
    }

    private static void everyPointCounts(Due due) {
        due.about("NOT_POSSIBLE if a point would leave the coordinates;");
        for (int i = 0; i < 24; i++) {
            int[] coordinates = new int[48];
            for (int j = 0; j < 24; j++) {
                coordinates[2 * j] = j == i ? 950 : 400 + j;
                coordinates[2 * j + 1] = j == i ? 60 : 400;
            }
            InkPad pad = new InkPad();
            due.draws(pad, 0, coordinates);
            due.is("point " + i + " leaves", pad.shift(0, 51, 0), InkPad.NOT_POSSIBLE);
            due.is("point " + i + " leaves", pad.shift(0, 0, -61), InkPad.NOT_POSSIBLE);
            due.is("point " + i + " at the edges", pad.shift(0, 50, -60), 24);
        }
    }

    private static void shiftByNothing(Due due) {
        due.about("NONE if dx and dy are 0.");
        InkPad pad = new InkPad();
        due.draws(pad, 0, 5, 5, 0, 1000);
        due.is("shift(0, 0, 0)", pad.shift(0, 0, 0), InkPad.NONE);
        due.is("count(8)", pad.count(8), 1);
        due.is("shift(0, 1, 0)", pad.shift(0, 1, 0), 2);
        due.is("shift(0, 0, -1)", pad.shift(0, 0, -1), 2);
        due.is("shift(0, -1, 0)", pad.shift(0, -1, 0), 2);
        due.is("shift(0, 0, 1)", pad.shift(0, 0, 1), 2);
        due.points("back", pad, 0, 5, 5, 0, 1000);
        due.is("count(8)", pad.count(8), 5);
    }

    private static void shiftAnswers(Due due) {
        due.about("Returns the number of its points; UNKNOWN; BAD_VALUE;");
        InkPad pad = new InkPad();
        due.is("shift(0, 1, 1) of none", pad.shift(0, 1, 1), InkPad.UNKNOWN);
        due.row(pad, 24, 5, 5);
        due.is("draw(0)", pad.draw(0), 0);
        int[] wrong = {-1, 1, 16, Integer.MIN_VALUE, Integer.MAX_VALUE};
        for (int stroke : wrong) {
            due.is("shift(" + stroke + ", 1, 1)", pad.shift(stroke, 1, 1), InkPad.UNKNOWN);
        }
        due.is("shift(0, 1, 1)", pad.shift(0, 1, 1), 24);
        due.is("the last x", pad.point(0, 23, 0), 29);
        due.is("the last y", pad.point(0, 23, 1), 6);
    }

    private static void previousColor(Due due) {
        due.about("Returns the previous color;");
        InkPad pad = new InkPad();
        due.draws(pad, 0, 1, 1);
        due.draws(pad, 2, 2, 2);
        due.is("paint(0, 3)", pad.paint(0, 3), 0);
        due.is("paint(0, 1)", pad.paint(0, 1), 3);
        due.is("paint(0, 0)", pad.paint(0, 0), 1);
        due.is("the other", pad.stroke(1, 0), 2);
    }

    private static void paintColors(Due due) {
        due.about("0 to 3");
        InkPad pad = new InkPad();
        due.draws(pad, 1, 1, 1);
        int[] wrong = {-1, 4, Integer.MIN_VALUE, Integer.MAX_VALUE};
        for (int color : wrong) {
            due.is("paint(0, " + color + ")", pad.paint(0, color), InkPad.BAD_VALUE);
        }
        due.is("its color", pad.stroke(0, 0), 1);
        due.is("paint(0, 0)", pad.paint(0, 0), 1);
        due.is("paint(0, 3)", pad.paint(0, 3), 0);
        due.is("its color", pad.stroke(0, 0), 3);
    }

    private static void sameColor(Due due) {
        due.about("NONE if it has this color.");
        for (int color = 0; color <= 3; color++) {
            InkPad pad = new InkPad();
            due.draws(pad, color, 1, 1);
            due.is("paint(0, " + color + ")", pad.paint(0, color), InkPad.NONE);
            due.is("count(8)", pad.count(8), 1);
        }
    }

    private static void paintUnknown(Due due) {
        due.about("Returns the previous color; UNKNOWN;");
        InkPad pad = new InkPad();
        due.is("paint(0, 0) of none", pad.paint(0, 0), InkPad.UNKNOWN);
        due.draws(pad, 1, 1, 1);
        int[] wrong = {-1, 1, 16, Integer.MIN_VALUE, Integer.MAX_VALUE};
        for (int stroke : wrong) {
            due.is("paint(" + stroke + ", 0)", pad.paint(stroke, 0), InkPad.UNKNOWN);
        }
        due.is("its color", pad.stroke(0, 0), 1);
    }

    private static void behindIt(Due due) {
        due.about("Removes a stroke; the numbers of those behind it become less by 1.");
        InkPad pad = new InkPad();
        due.draws(pad, 0, 1, 1);
        due.draws(pad, 1, 2, 2, 3, 3);
        due.draws(pad, 2, 4, 4);
        due.draws(pad, 3, 5, 5, 6, 6);
        due.is("remove(1)", pad.remove(1), 3);
        due.same("without 1", Look.strokes(pad), "0 of 0: 1,1; 1 of 2: 4,4; 2 of 3: 5,5 6,6; ");
        due.is("remove(0)", pad.remove(0), 2);
        due.same("without the first", Look.strokes(pad), "0 of 2: 4,4; 1 of 3: 5,5 6,6; ");
        due.is("remove(1)", pad.remove(1), 1);
        due.same("without the last", Look.strokes(pad), "0 of 2: 4,4; ");
    }

    private static void removeFromAFullPad(Due due) {
        due.about("Returns the number of strokes then; UNKNOWN.");
        for (int stroke = 0; stroke < 16; stroke++) {
            InkPad pad = new InkPad();
            due.column(pad, 16, 0, 10, 10);
            due.is("remove(16)", pad.remove(16), InkPad.UNKNOWN);
            due.is("remove(" + stroke + ")", pad.remove(stroke), 15);
            for (int i = 0; i < 15; i++) {
                due.is("the top of " + i, pad.stroke(i, 4), 10 + i + (i < stroke ? 0 : 1));
            }
            due.is("remove(15)", pad.remove(15), InkPad.UNKNOWN);
        }
    }

    private static void removeTheLast(Due due) {
        due.about("Returns the number of strokes then; UNKNOWN.");
        InkPad pad = new InkPad();
        due.is("remove(0) of none", pad.remove(0), InkPad.UNKNOWN);
        due.draws(pad, 0, 1, 1);
        int[] wrong = {-1, 1, 16, Integer.MIN_VALUE, Integer.MAX_VALUE};
        for (int stroke : wrong) {
            due.is("remove(" + stroke + ")", pad.remove(stroke), InkPad.UNKNOWN);
        }
        due.is("remove(0)", pad.remove(0), 0);
        due.is("remove(0) again", pad.remove(0), InkPad.UNKNOWN);
        due.is("count(8)", pad.count(8), 2);
    }
}
