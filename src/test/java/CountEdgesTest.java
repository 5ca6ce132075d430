/** The edges of cells, nearest, cell, color and count, a test for each sentence (23 to 26). */
public final class CountEdgesTest {
    public static void main(String[] args) {
        Due due = new Due();
        cellOfAPoint(due);
        cellsInARow(due);
        theLastCells(due);
        atLeastOnePoint(due);
        cellArguments(due);
        pointsInACell(due);
        nearestOfSeveral(due);
        nearestPoint(due);
        nearestAcross(due);
        nearestArguments(due);
        noStrokes(due);
        colors(due);
        sharedCells(due);
        wrongColors(due);
        counts(due);
        emptyCounts(due);
        fullCounts(due);
        greatestInACell(due);
        askedAgain(due);
        wrongCounts(due);
        due.end();
    }

    private static void cellOfAPoint(Due due) {
        due.about("The cell of a point is (x / 10, y / 10).");
        InkPad pad = new InkPad();
        due.draws(pad, 0, 9, 9);
        due.is("count(5)", pad.count(5), 1);
        due.draws(pad, 0, 10, 9);
        due.is("count(5)", pad.count(5), 2);
        due.draws(pad, 0, 9, 10);
        due.is("count(5)", pad.count(5), 3);
        due.draws(pad, 0, 10, 10, 19, 19);
        due.is("count(5)", pad.count(5), 4);
        due.draws(pad, 0, 0, 0);
        due.is("count(5)", pad.count(5), 4);
        due.is("cell(0, 0)", pad.cell(0, 0), 2);
        due.is("cell(9, 9)", pad.cell(9, 9), 2);
        due.is("cell(19, 0)", pad.cell(19, 0), 1);
        due.is("cell(0, 19)", pad.cell(0, 19), 1);
        due.is("cell(19, 10)", pad.cell(19, 10), 2);
        due.is("cell(20, 10)", pad.cell(20, 10), 0);
        due.is("cell(10, 20)", pad.cell(10, 20), 0);
    }

    private static void cellsInARow(Due due) {
        due.about("The cell of a point is (x / 10, y / 10).");
        // The last cells of a row and the first ones of the next are not the same.
        InkPad pad = new InkPad();
        due.draws(pad, 1, 1000, 0, 990, 0, 0, 10, 10, 10);
        due.is("cell(1000, 0)", pad.cell(1000, 0), 1);
        due.is("cell(999, 0)", pad.cell(999, 0), 1);
        due.is("cell(0, 10)", pad.cell(0, 10), 1);
        due.is("cell(10, 10)", pad.cell(10, 10), 1);
        due.is("count(5)", pad.count(5), 4);
        due.is("count(6)", pad.count(6), 1);
        due.is("color(1, 3)", pad.color(1, 3), 4);
        InkPad column = new InkPad();
        due.draws(column, 1, 0, 1000, 0, 990, 10, 0, 10, 10);
        due.is("cell(0, 1000)", column.cell(0, 1000), 1);
        due.is("cell(0, 990)", column.cell(0, 990), 1);
        due.is("cell(10, 0)", column.cell(10, 0), 1);
        due.is("count(5)", column.count(5), 4);
        InkPad swapped = new InkPad();
        due.draws(swapped, 1, 120, 340, 340, 120, 230, 230);
        due.is("count(5)", swapped.count(5), 3);
        due.is("cell(120, 340)", swapped.cell(120, 340), 1);
        due.is("cell(340, 340)", swapped.cell(340, 340), 0);
    }

    private static void theLastCells(Due due) {
        due.about("The cell of a point is (x / 10, y / 10).");
        InkPad pad = new InkPad();
        due.draws(pad, 0, 1000, 1000, 999, 1000, 1000, 999, 999, 999);
        due.is("cell(1000, 1000)", pad.cell(1000, 1000), 1);
        due.is("cell(990, 1000)", pad.cell(990, 1000), 1);
        due.is("cell(1000, 990)", pad.cell(1000, 990), 1);
        due.is("cell(990, 990)", pad.cell(990, 990), 1);
        due.is("count(5)", pad.count(5), 4);
    }

    private static void atLeastOnePoint(Due due) {
        due.about("A cell has ink if at least one point of a stroke lies in it.");
        InkPad pad = new InkPad();
        due.puts(pad, 55, 55, 155, 55);
        due.is("points of the buffer are no ink", pad.count(5), 0);
        due.is("cell(55, 55)", pad.cell(55, 55), 0);
        due.is("draw(0)", pad.draw(0), 0);
        due.is("two points", pad.count(5), 2);
        due.is("between two points there is no ink", pad.cell(105, 55), 0);
        due.draws(pad, 1, 50, 50, 59, 59, 51, 51);
        due.is("several points in a cell", pad.count(5), 2);
        due.is("cell(55, 55)", pad.cell(55, 55), 4);
        due.is("rub(55, 55, 20)", pad.rub(55, 55, 20), 4);
        due.is("a cell whose points are gone", pad.count(5), 1);
        due.is("cell(55, 55)", pad.cell(55, 55), 0);
    }

    private static void cellArguments(Due due) {
        due.about("x of a point, 0 to 1000");
        InkPad pad = new InkPad();
        int[] wrong = {-1, 1001, Integer.MIN_VALUE, Integer.MAX_VALUE};
        for (int number : wrong) {
            due.is("cell(" + number + ", 5)", pad.cell(number, 5), InkPad.BAD_VALUE);
            due.is("cell(5, " + number + ")", pad.cell(5, number), InkPad.BAD_VALUE);
        }
        due.is("cell(0, 0)", pad.cell(0, 0), 0);
        due.is("cell(1000, 1000)", pad.cell(1000, 1000), 0);
        due.draws(pad, 0, 0, 0, 1000, 1000);
        due.is("cell(-1, 0), beside a point", pad.cell(-1, 0), InkPad.BAD_VALUE);
        due.is("cell(0, -9), beside a point", pad.cell(0, -9), InkPad.BAD_VALUE);
        due.is("cell(1001, 1000), beside a point", pad.cell(1001, 1000), InkPad.BAD_VALUE);
        due.is("cell(1000, 1009), beside a point", pad.cell(1000, 1009), InkPad.BAD_VALUE);
    }

    private static void pointsInACell(Due due) {
        due.about("Returns the number of points of strokes in the cell of this point; BAD_VALUE.");
        InkPad pad = new InkPad();
        due.is("cell(300, 300) of none", pad.cell(300, 300), 0);
        due.draws(pad, 1, 300, 300, 309, 309, 300, 309, 299, 300, 300, 299, 310, 300);
        due.draws(pad, 2, 309, 300);
        due.is("cell(300, 300)", pad.cell(300, 300), 4);
        due.is("cell(309, 309)", pad.cell(309, 309), 4);
        due.is("cell(299, 309)", pad.cell(299, 309), 1);
        due.is("cell(309, 299)", pad.cell(309, 299), 1);
        due.is("cell(310, 309)", pad.cell(310, 309), 1);
        due.is("cell(309, 310)", pad.cell(309, 310), 0);
        due.is("undo()", pad.undo(), 1);
        due.is("cell(300, 300) with one less", pad.cell(300, 300), 3);
    }

    private static void nearestOfSeveral(Due due) {
        due.about("Returns the stroke, the lowest one of several;");
        InkPad pad = new InkPad();
        due.draws(pad, 0, 900, 900);
        due.draws(pad, 0, 110, 100);
        due.draws(pad, 0, 90, 100);
        due.draws(pad, 0, 100, 110);
        due.is("three at the same distance", pad.nearest(100, 100), 1);
        due.is("one nearer", pad.nearest(99, 100), 2);
        due.is("one nearer", pad.nearest(100, 101), 3);
        due.is("one nearer", pad.nearest(101, 100), 1);
        InkPad full = new InkPad();
        for (int stroke = 0; stroke < 16; stroke++) {
            due.draws(full, 0, 5, 5, 8, 8);
        }
        due.is("all of 16", full.nearest(8, 8), 0);
        due.is("shift(0, 9, 9)", full.shift(0, 9, 9), 2);
        due.is("all but the first", full.nearest(8, 8), 1);
    }

    private static void nearestPoint(Due due) {
        due.about("Finds the stroke with the point that is nearest to a place.");
        InkPad pad = new InkPad();
        due.draws(pad, 0, 0, 0, 500, 500);
        due.draws(pad, 0, 20, 0);
        due.draws(pad, 0, 400, 0, 600, 0, 495, 500);
        due.is("at the first point", pad.nearest(0, 0), 0);
        due.is("at the last point", pad.nearest(495, 500), 2);
        due.is("the points count, not what is between", pad.nearest(200, 200), 1);
        due.is("10 and 10", pad.nearest(10, 0), 0);
        due.is("9 and 11", pad.nearest(11, 0), 1);
        // 3 and 4 are 25 together, 0 and 6 are 36.
        InkPad slant = new InkPad();
        due.draws(slant, 0, 500, 506);
        due.draws(slant, 0, 503, 504);
        due.is("the distance, not the sum", slant.nearest(500, 500), 1);
        // 4 and 4 are 32, 0 and 5 are 25.
        InkPad straight = new InkPad();
        due.draws(straight, 0, 504, 504);
        due.draws(straight, 0, 500, 505);
        due.is("the distance, not the greater part", straight.nearest(500, 500), 1);
    }

    private static void nearestAcross(Due due) {
        due.about("Finds the stroke with the point that is nearest to a place.");
        InkPad pad = new InkPad();
        due.draws(pad, 0, 1000, 1000);
        due.is("as far as can be", pad.nearest(0, 0), 0);
        due.draws(pad, 0, 1000, 999);
        due.is("one nearer", pad.nearest(0, 0), 1);
        due.is("at the place", pad.nearest(1000, 1000), 0);
        due.is("nearest(1000, 0)", pad.nearest(1000, 0), 1);
    }

    private static void nearestArguments(Due due) {
        due.about("Returns the stroke, the lowest one of several; BAD_VALUE; NONE if there are no strokes.");
        InkPad pad = new InkPad();
        due.draws(pad, 0, 5, 5);
        int[] wrong = {-1, 1001, Integer.MIN_VALUE, Integer.MAX_VALUE};
        for (int number : wrong) {
            due.is("nearest(" + number + ", 5)", pad.nearest(number, 5), InkPad.BAD_VALUE);
            due.is("nearest(5, " + number + ")", pad.nearest(5, number), InkPad.BAD_VALUE);
        }
        due.is("nearest(0, 1000)", pad.nearest(0, 1000), 0);
        due.is("nearest(1000, 0)", pad.nearest(1000, 0), 0);
    }

    private static void noStrokes(Due due) {
        due.about("NONE if there are no strokes.");
        InkPad pad = new InkPad();
        due.is("of a new pad", pad.nearest(0, 0), InkPad.NONE);
        due.puts(pad, 0, 0);
        due.is("points of the buffer are no stroke", pad.nearest(0, 0), InkPad.NONE);
        due.is("draw(0)", pad.draw(0), 0);
        due.is("with a stroke", pad.nearest(0, 0), 0);
        due.is("remove(0)", pad.remove(0), 0);
        due.is("when it is gone", pad.nearest(0, 0), InkPad.NONE);
    }

    private static void colors(Due due) {
        due.about("0 for the number of strokes of this color, 1 for the number of their points, 2 for "
                + "the sum of their lengths, 3 for the number of cells in which at least one of their "
                + "points lies");
        for (int color = 0; color <= 3; color++) {
            InkPad pad = new InkPad();
            numbers(due, pad, color, 0, 0, 0, 0);
            due.draws(pad, color, 0, 0, 3, 4, 30, 4);
            due.draws(pad, (color + 1) % 4, 0, 0, 0, 900);
            due.draws(pad, color, 500, 500);
            numbers(due, pad, color, 2, 4, 50 + 270, 3);
            numbers(due, pad, (color + 1) % 4, 1, 2, 9000, 2);
            numbers(due, pad, (color + 2) % 4, 0, 0, 0, 0);
            due.is("remove(2)", pad.remove(2), 2);
            numbers(due, pad, color, 1, 3, 320, 2);
        }
    }

    private static void numbers(Due due, InkPad pad, int color, int... wanted) {
        for (int what = 0; what < wanted.length; what++) {
            due.is("color(" + color + ", " + what + ")", pad.color(color, what), wanted[what]);
        }
    }

    private static void sharedCells(Due due) {
        due.about("3 for the number of cells in which at least one of their points lies");
        InkPad pad = new InkPad();
        due.draws(pad, 1, 50, 50, 59, 59, 60, 60);
        due.draws(pad, 2, 51, 51);
        due.draws(pad, 1, 52, 52);
        due.is("color(1, 3)", pad.color(1, 3), 2);
        due.is("color(2, 3), a cell of another color, too", pad.color(2, 3), 1);
        due.is("count(5), each cell once", pad.count(5), 2);
        due.is("count(6), points of all colors", pad.count(6), 4);
    }

    private static void wrongColors(Due due) {
        due.about("Returns the number; BAD_VALUE.");
        InkPad pad = new InkPad();
        due.draws(pad, 0, 5, 5);
        due.draws(pad, 3, 5, 5);
        int[] colors = {-1, 4, Integer.MIN_VALUE, Integer.MAX_VALUE};
        for (int color : colors) {
            for (int what = 0; what <= 3; what++) {
                due.is("color(" + color + ", " + what + ")", pad.color(color, what), InkPad.BAD_VALUE);
            }
        }
        int[] whats = {-1, 4, Integer.MIN_VALUE, Integer.MAX_VALUE};
        for (int what : whats) {
            due.is("color(0, " + what + ")", pad.color(0, what), InkPad.BAD_VALUE);
            due.is("color(3, " + what + ")", pad.color(3, what), InkPad.BAD_VALUE);
        }
    }

    private static void counts(Due due) {
        due.about("0 for the number of strokes, 1 for the number of all their points, 2 for the sum of "
                + "their lengths, 3 for the number of lines, 4 for the number of words, 5 for the number "
                + "of cells that have ink, 6 for the greatest number of points in a cell, 7 for the "
                + "number of points in the buffer, 8 for the number of states in the history, 9 for how "
                + "often something can be done again, 10 for the gap");
        InkPad pad = new InkPad();
        due.draws(pad, 0, 0, 0, 3, 4, 0, 0);
        due.draws(pad, 3, 5, 5, 5, 15, 500, 15);
        due.draws(pad, 1, 100, 3);
        due.draws(pad, 1, 400, 900);
        due.draws(pad, 2, 700, 900);
        due.puts(pad, 1, 1, 2, 2);
        pad.undo();
        pad.undo();
        pad.setGap(77);
        // The first one ends at the height 4, the second one begins at 5; 3 + 77 is less than 100.
        int[] wanted = {3, 7, 100 + 100 + 4950, 2, 3, 4, 4, 2, 3, 2, 77};
        for (int what = 0; what < wanted.length; what++) {
            due.is("count(" + what + ")", pad.count(what), wanted[what]);
        }
    }

    private static void emptyCounts(Due due) {
        due.about("6 for the greatest number of points in a cell,");
        InkPad pad = new InkPad();
        due.is("count(6) of a new pad", pad.count(6), 0);
        due.draws(pad, 0, 5, 5, 6, 6);
        due.is("count(6), asked first", pad.count(6), 2);
        due.is("rub(5, 5, 9)", pad.rub(5, 5, 9), 2);
        for (int what = 0; what <= 6; what++) {
            due.is("count(" + what + ") when all is gone", pad.count(what), 0);
        }
        due.is("undo()", pad.undo(), 1);
        due.is("count(6) when it is back", pad.count(6), 2);
    }

    private static void fullCounts(Due due) {
        due.about("5 for the number of cells that have ink,");
        InkPad pad = new InkPad();
        int[] coordinates = new int[48];
        for (int stroke = 0; stroke < 16; stroke++) {
            for (int i = 0; i < 24; i++) {
                coordinates[2 * i] = 1000 - 40 * i;
                coordinates[2 * i + 1] = 60 * stroke;
            }
            due.is("draw of 24 points", due.draws(pad, stroke % 2, coordinates), stroke);
        }
        int[] wanted = {16, 384, 16 * 23 * 400, 16, 16, 384, 1};
        for (int what = 0; what < wanted.length; what++) {
            due.is("count(" + what + ")", pad.count(what), wanted[what]);
        }
        numbers(due, pad, 0, 8, 192, 8 * 23 * 400, 192);
        numbers(due, pad, 2, 0, 0, 0, 0);
    }

    private static void greatestInACell(Due due) {
        due.about("6 for the greatest number of points in a cell,");
        InkPad pad = new InkPad();
        int[] coordinates = new int[48];
        for (int i = 0; i < 24; i++) {
            coordinates[2 * i] = 1000;
            coordinates[2 * i + 1] = 990 + i % 2;
        }
        for (int stroke = 0; stroke < 15; stroke++) {
            due.draws(pad, 3, coordinates);
        }
        due.draws(pad, 0, 989, 990);
        due.is("count(6)", pad.count(6), 360);
        due.is("count(5)", pad.count(5), 2);
        due.is("cell(1000, 990)", pad.cell(1000, 990), 360);
        due.is("color(3, 3)", pad.color(3, 3), 1);
    }

    private static void askedAgain(Due due) {
        due.about("Returns the number;");
        InkPad pad = new InkPad();
        due.draws(pad, 1, 5, 5, 6, 6, 7, 7);
        due.draws(pad, 2, 5, 500);
        due.is("count(6)", pad.count(6), 3);
        due.is("count(6) again", pad.count(6), 3);
        due.is("color(2, 3) behind it", pad.color(2, 3), 1);
        due.is("count(5) behind it", pad.count(5), 2);
        due.is("remove(0)", pad.remove(0), 1);
        due.is("count(6) of fewer", pad.count(6), 1);
        due.is("count(5) of fewer", pad.count(5), 1);
        due.is("undo()", pad.undo(), 2);
        due.is("count(6) of more", pad.count(6), 3);
    }

    private static void wrongCounts(Due due) {
        due.about("Returns the number; BAD_VALUE.");
        InkPad pad = new InkPad();
        int[] wrong = {-1, 11, Integer.MIN_VALUE, Integer.MAX_VALUE};
        for (int what : wrong) {
            due.is("count(" + what + ")", pad.count(what), InkPad.BAD_VALUE);
        }
        due.is("count(0)", pad.count(0), 0);
        due.is("count(10)", pad.count(10), 20);
    }
}
