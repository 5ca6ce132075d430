/** Promises 23 to 26: nearest, cell, color, count. */
public final class CountTest {
    public static void main(String[] args) {
        Due due = new Due();
        nearest(due);
        cell(due);
        color(due);
        count(due);
        manyCells(due);
        due.end();
    }

    private static void nearest(Due due) {
        InkPad pad = new InkPad();
        due.is("nearest(0, 0) of nothing", pad.nearest(0, 0), InkPad.NONE);
        due.is("nearest(-1, 0) of nothing", pad.nearest(-1, 0), InkPad.BAD_VALUE);
        due.draws(pad, 0, 100, 100, 900, 900);
        due.draws(pad, 0, 500, 500);
        due.draws(pad, 0, 110, 100, 500, 500);
        due.is("nearest(1001, 0)", pad.nearest(1001, 0), InkPad.BAD_VALUE);
        due.is("nearest(0, -1)", pad.nearest(0, -1), InkPad.BAD_VALUE);
        due.is("nearest(0, 1001)", pad.nearest(0, 1001), InkPad.BAD_VALUE);
        due.is("nearest(0, 0)", pad.nearest(0, 0), 0);
        due.is("nearest(1000, 1000), a later point", pad.nearest(1000, 1000), 0);
        due.is("nearest(106, 100)", pad.nearest(106, 100), 2);
        due.is("nearest(105, 100), the lowest", pad.nearest(105, 100), 0);
        due.is("nearest(500, 500), the lowest", pad.nearest(500, 500), 1);
        due.is("nearest(104, 94), both ways count", pad.nearest(104, 94), 0);
        due.is("nearest(1000, 0)", pad.nearest(1000, 0), 1);
        due.is("remove(1)", pad.remove(1), 2);
        due.is("remove(1)", pad.remove(1), 1);
        due.is("nearest(490, 490), strokes that are gone", pad.nearest(490, 490), 0);
        // 3 and 4 are nearer together than 0 and 6: the square counts, not the sum.
        InkPad slant = new InkPad();
        due.draws(slant, 0, 500, 506);
        due.draws(slant, 0, 503, 504);
        due.is("the square of the distance counts", slant.nearest(500, 500), 1);
    }

    private static void cell(Due due) {
        InkPad pad = new InkPad();
        due.draws(pad, 0, 0, 0, 9, 9, 0, 0, 10, 9);
        due.draws(pad, 1, 9, 0, 9, 10);
        due.draws(pad, 2, 1000, 1000, 999, 1000, 1000, 999, 999, 999);
        due.is("cell(0, 0)", pad.cell(0, 0), 4);
        due.is("cell(9, 9)", pad.cell(9, 9), 4);
        due.is("cell(10, 0)", pad.cell(10, 0), 1);
        due.is("cell(0, 10)", pad.cell(0, 10), 1);
        due.is("cell(10, 10)", pad.cell(10, 10), 0);
        due.is("cell(1000, 1000)", pad.cell(1000, 1000), 1);
        due.is("cell(990, 1000)", pad.cell(990, 1000), 1);
        due.is("cell(1000, 990)", pad.cell(1000, 990), 1);
        due.is("cell(995, 995)", pad.cell(995, 995), 1);
        due.is("cell(-1, 0)", pad.cell(-1, 0), InkPad.BAD_VALUE);
        due.is("cell(0, -1)", pad.cell(0, -1), InkPad.BAD_VALUE);
        due.is("cell(1001, 0)", pad.cell(1001, 0), InkPad.BAD_VALUE);
        due.is("cell(0, 1001)", pad.cell(0, 1001), InkPad.BAD_VALUE);
        due.puts(pad, 505, 505);
        due.is("points of the buffer do not count", pad.cell(505, 505), 0);
    }

    private static void color(Due due) {
        InkPad pad = new InkPad();
        due.draws(pad, 1, 0, 0, 3, 4, 0, 0);
        due.draws(pad, 2, 1, 1, 20, 1);
        due.draws(pad, 1, 5, 5, 5, 15);
        numbers(due, pad, 0, 0, 0, 0, 0);
        numbers(due, pad, 1, 2, 5, 200, 2);
        numbers(due, pad, 2, 1, 2, 190, 2);
        numbers(due, pad, 3, 0, 0, 0, 0);
        due.is("color(-1, 0)", pad.color(-1, 0), InkPad.BAD_VALUE);
        due.is("color(4, 0)", pad.color(4, 0), InkPad.BAD_VALUE);
        due.is("color(0, -1)", pad.color(0, -1), InkPad.BAD_VALUE);
        due.is("color(0, 4)", pad.color(0, 4), InkPad.BAD_VALUE);
        due.is("paint(2, 3)", pad.paint(2, 3), 1);
        numbers(due, pad, 1, 1, 3, 100, 1);
        numbers(due, pad, 3, 1, 2, 100, 2);
    }

    private static void numbers(Due due, InkPad pad, int color, int... wanted) {
        for (int what = 0; what < wanted.length; what++) {
            due.is("color(" + color + ", " + what + ")", pad.color(color, what), wanted[what]);
        }
    }

    private static void count(Due due) {
        InkPad pad = new InkPad();
        due.draws(pad, 0, 0, 0, 3, 4, 0, 0);
        due.draws(pad, 3, 5, 5, 5, 15, 500, 15);
        due.draws(pad, 3, 700, 900);
        due.puts(pad, 1, 1, 2, 2);
        pad.undo();
        pad.setGap(77);
        int[] wanted = {2, 6, 100 + 100 + 4950, 2, 2, 3, 4, 2, 2, 1, 77};
        for (int what = 0; what < wanted.length; what++) {
            due.is("count(" + what + ")", pad.count(what), wanted[what]);
        }
        due.is("count(-1)", pad.count(-1), InkPad.BAD_VALUE);
        due.is("count(11)", pad.count(11), InkPad.BAD_VALUE);
        due.is("count(least)", pad.count(Integer.MIN_VALUE), InkPad.BAD_VALUE);
        due.is("redo", pad.redo(), 0);
        due.is("count(3)", pad.count(3), 3);
        due.is("count(5)", pad.count(5), 4);
    }

    private static void manyCells(Due due) {
        InkPad pad = new InkPad();
        // 384 points in as many cells, in the corner with the highest ones.
        for (int stroke = 0; stroke < 16; stroke++) {
            int[] coordinates = new int[48];
            for (int i = 0; i < 24; i++) {
                coordinates[2 * i] = 1000 - 10 * i;
                coordinates[2 * i + 1] = 1000 - 10 * stroke;
            }
            due.is("draw of 24", due.draws(pad, stroke % 4, coordinates), stroke);
        }
        due.is("points", pad.count(1), 384);
        due.is("cells", pad.count(5), 384);
        due.is("most", pad.count(6), 1);
        due.is("cells of a color", pad.color(3, 3), 96);
        for (int stroke = 1; stroke < 16; stroke++) {
            due.is("shift", pad.shift(stroke, 0, 10 * stroke), 24);
        }
        due.is("cells then", pad.count(5), 24);
        due.is("most then", pad.count(6), 16);
        due.is("cells of a color then", pad.color(0, 3), 24);
        due.is("cell(1000, 1000)", pad.cell(1000, 1000), 16);
        due.is("nearest(0, 0) in a full pad", pad.nearest(0, 0), 0);
        due.is("nearest(770, 0) in a full pad", pad.nearest(770, 0), 0);
    }
}
