/** The edges of smoothing and thinning, a test for each sentence (promises 9 and 10). */
public final class SmoothThinEdgesTest {
    public static void main(String[] args) {
        Due due = new Due();
        butTheFirstAndLast(due);
        dividedByFour(due);
        allAtOnce(due);
        afterTheRounds(due);
        asItIsKept(due);
        lastOneIncluded(due);
        rounds(due);
        longStroke(due);
        smoothAnswers(due);
        fromTheSecond(due);
        lessThanTheDistance(due);
        latestKept(due);
        thinRepeats(due);
        distances(due);
        thinAnswers(due);
        staysAsItIs(due);
        due.end();
    }

    private static void smooth(Due due, String name, int rounds, int[] before, int[] after) {
        InkPad pad = new InkPad();
        due.draws(pad, 3, 900, 900);
        due.draws(pad, 2, before);
        due.is(name + ": smooth(1, " + rounds + ")", pad.smooth(1, rounds), after.length / 2);
        due.points(name, pad, 1, after);
        due.is(name + ": its color", pad.stroke(1, 0), 2);
        due.points(name + ": the other", pad, 0, 900, 900);
        due.is(name + ": count(8)", pad.count(8), 3);
    }

    private static void smoothStays(Due due, String name, int rounds, int... points) {
        InkPad pad = new InkPad();
        due.draws(pad, 2, points);
        due.is(name + ": smooth(0, " + rounds + ")", pad.smooth(0, rounds), InkPad.NONE);
        due.points(name, pad, 0, points);
        due.is(name + ": count(8)", pad.count(8), 1);
    }

    private static int[] at(int... coordinates) {
        return coordinates;
    }

    private static void butTheFirstAndLast(Due due) {
        due.about("In a round, each point of a stroke but the first and the last one becomes "
                + "((x before + 2 * x + x behind) / 4, (y before + 2 * y + y behind) / 4), all at once.");
        smoothStays(due, "one point", 8, 30, 40);
        smoothStays(due, "two points", 8, 0, 1000, 1000, 0);
        smooth(due, "three points", 1, at(10, 100, 60, 20, 30, 0), at(10, 100, 40, 35, 30, 0));
        smooth(due, "x alone", 1, at(0, 7, 80, 7, 4, 7), at(0, 7, 41, 7, 4, 7));
        smooth(due, "y alone", 1, at(7, 0, 7, 80, 7, 4), at(7, 0, 7, 41, 7, 4));
        smooth(due, "the corners", 1, at(1000, 1000, 0, 0, 1000, 1000),
                at(1000, 1000, 500, 500, 1000, 1000));
    }

    private static void dividedByFour(Due due) {
        due.about("All divisions round down.");
        smooth(due, "7 / 4", 1, at(0, 0, 0, 50, 7, 0), at(0, 0, 1, 25, 7, 0));
        smooth(due, "8 / 4", 1, at(0, 0, 0, 50, 8, 0), at(0, 0, 2, 25, 8, 0));
        smooth(due, "3 / 4", 1, at(0, 0, 0, 50, 3, 0), at(0, 0, 0, 25, 3, 0));
        smooth(due, "7 / 4 of y", 1, at(0, 0, 50, 0, 0, 7), at(0, 0, 25, 1, 0, 7));
        // A half is not rounded to the nearer number: 102 / 4 and 103 / 4.
        smooth(due, "two and three quarters", 1, at(0, 0, 51, 0, 0, 103), at(0, 0, 25, 25, 0, 103));
        smoothStays(due, "rounded to what it was", 1, 0, 0, 1, 0, 5, 0);
    }

    private static void allAtOnce(Due due) {
        due.about("all at once.");
        // One after the other, the second inner point would see 25 in place of 50 before it.
        smooth(due, "forwards", 1, at(0, 0, 50, 0, 50, 100, 0, 100),
                at(0, 0, 37, 25, 37, 75, 0, 100));
        smooth(due, "two rounds", 2, at(0, 0, 50, 0, 50, 100, 0, 100),
                at(0, 0, 27, 31, 27, 68, 0, 100));
        smooth(due, "five points", 1, at(8, 0, 0, 4, 100, 8, 0, 12, 16, 40),
                at(8, 0, 27, 4, 50, 8, 29, 18, 16, 40));
    }

    private static void afterTheRounds(Due due) {
        due.about("After the rounds, points that are the same as the point before them (as it is kept) "
                + "are removed, the last one of the stroke included.");
        // After the first of two rounds the second point is (0, 0), and it must be there still.
        smooth(due, "two rounds", 2, at(0, 0, 1, 0, 0, 0, 60, 0), at(0, 0, 3, 0, 22, 0, 60, 0));
        smooth(due, "one round and one", 1, at(0, 0, 1, 0, 0, 0, 60, 0), at(0, 0, 15, 0, 60, 0));
        InkPad apart = new InkPad();
        due.draws(apart, 0, 0, 0, 1, 0, 0, 0, 60, 0);
        due.is("smooth(0, 1)", apart.smooth(0, 1), 3);
        due.is("smooth(0, 1) again", apart.smooth(0, 1), 3);
        due.points("removed between two calls", apart, 0, 0, 0, 22, 0, 60, 0);
    }

    private static void asItIsKept(Due due) {
        due.about("(as it is kept)");
        smooth(due, "three that are the same", 1, at(9, 5, 10, 5, 9, 5, 10, 5, 9, 5, 400, 5),
                at(9, 5, 107, 5, 400, 5));
        // (5, 5) comes again behind another point: it is not the same as the one before it.
        smooth(due, "kept when it comes again", 1, at(5, 5, 10, 5, 25, 5, 10, 5, 5, 5),
                at(5, 5, 12, 5, 17, 5, 12, 5, 5, 5));
    }

    private static void lastOneIncluded(Due due) {
        due.about("the last one of the stroke included.");
        smooth(due, "a point is left", 1, at(8, 9, 9, 9, 8, 9), at(8, 9));
        smooth(due, "the last removed", 1, at(100, 9, 8, 9, 9, 9, 8, 9), at(100, 9, 31, 9, 8, 9));
        smooth(due, "a bow of four", 1, at(8, 9, 9, 9, 8, 10, 8, 9), at(8, 9));
    }

    private static void rounds(Due due) {
        due.about("1 to 8");
        int[] wrong = {0, 9, -1, Integer.MIN_VALUE, Integer.MAX_VALUE};
        for (int rounds : wrong) {
            InkPad pad = new InkPad();
            due.draws(pad, 0, 0, 0, 500, 900, 1000, 0);
            due.is("smooth(0, " + rounds + ")", pad.smooth(0, rounds), InkPad.BAD_VALUE);
            due.points("after " + rounds, pad, 0, 0, 0, 500, 900, 1000, 0);
        }
        int[] heights = {450, 225, 112, 56, 28, 14, 7, 3};
        for (int rounds = 1; rounds <= 8; rounds++) {
            smooth(due, "rounds", rounds, at(0, 0, 500, 900, 1000, 0),
                    at(0, 0, 500, heights[rounds - 1], 1000, 0));
        }
    }

    private static void longStroke(Due due) {
        due.about("In a round, each point of a stroke but the first and the last one becomes");
        int[] before = new int[48];
        int[] after = new int[48];
        for (int i = 0; i < 24; i++) {
            before[2 * i] = 40 * i;
            before[2 * i + 1] = i % 2 * 400;
            after[2 * i] = 40 * i;
            after[2 * i + 1] = i == 0 ? 0 : i == 23 ? 400 : 200;
        }
        smooth(due, "24 points", 1, before, after);
    }

    private static void smoothAnswers(Due due) {
        due.about("Returns the number of its points then; UNKNOWN; BAD_VALUE; NONE if it stays as it is.");
        InkPad pad = new InkPad();
        due.is("smooth(0, 1) of none", pad.smooth(0, 1), InkPad.UNKNOWN);
        due.draws(pad, 0, 0, 0, 8, 80, 16, 0);
        due.is("smooth(1, 1)", pad.smooth(1, 1), InkPad.UNKNOWN);
        due.is("smooth(-1, 1)", pad.smooth(-1, 1), InkPad.UNKNOWN);
        due.is("smooth(16, 1)", pad.smooth(16, 1), InkPad.UNKNOWN);
        due.is("smooth(least, 1)", pad.smooth(Integer.MIN_VALUE, 1), InkPad.UNKNOWN);
        due.is("smooth(0, 1), as many points, another place", pad.smooth(0, 1), 3);
        smoothStays(due, "a straight line", 8, 0, 0, 5, 9, 10, 18, 15, 27);
        smoothStays(due, "there and back in even steps", 1, 0, 0, 0, 1, 0, 2, 0, 3);
    }

    private static void thin(Due due, String name, int distance, int[] before, int[] after) {
        InkPad pad = new InkPad();
        due.draws(pad, 3, 900, 900);
        due.draws(pad, 1, before);
        due.is(name + ": thin(1, " + distance + ")", pad.thin(1, distance), after.length / 2);
        due.points(name, pad, 1, after);
        due.is(name + ": its color", pad.stroke(1, 0), 1);
        due.points(name + ": the other", pad, 0, 900, 900);
        due.is(name + ": count(8)", pad.count(8), 3);
    }

    private static void thinStays(Due due, String name, int distance, int... points) {
        InkPad pad = new InkPad();
        due.draws(pad, 1, points);
        due.is(name + ": thin(0, " + distance + ")", pad.thin(0, distance), InkPad.NONE);
        due.points(name, pad, 0, points);
        due.is(name + ": count(8)", pad.count(8), 1);
    }

    private static void fromTheSecond(Due due) {
        due.about("The points of a stroke are gone through from the second one to the last but one;");
        thinStays(due, "one point", 500, 3, 4);
        thinStays(due, "two points", 500, 3, 4, 4, 4);
        thin(due, "three points", 500, at(3, 4, 9, 9, 4, 4), at(3, 4, 4, 4));
        thin(due, "the second and the last but one", 5, at(0, 0, 1, 0, 100, 0, 101, 0, 102, 0),
                at(0, 0, 100, 0, 102, 0));
        int[] row = new int[48];
        for (int i = 0; i < 24; i++) {
            row[2 * i] = i;
        }
        thin(due, "24 points", 500, row, at(0, 0, 23, 0));
        thin(due, "24 points by 22", 22, row, at(0, 0, 22, 0, 23, 0));
    }

    private static void lessThanTheDistance(Due due) {
        due.about("a point is removed if the square of its distance from the latest point before it "
                + "that was kept is less than the square of the given distance.");
        thinStays(due, "the same distance", 5, 100, 100, 103, 104, 900, 900);
        thinStays(due, "the same distance, left and up", 5, 100, 100, 97, 96, 900, 900);
        thin(due, "one more", 6, at(100, 100, 103, 104, 900, 900), at(100, 100, 900, 900));
        thinStays(due, "26 is not less than 25", 5, 100, 100, 105, 101, 900, 900);
        thin(due, "20 is less than 25", 5, at(100, 100, 104, 102, 900, 900), at(100, 100, 900, 900));
        thinStays(due, "4 and 4 are 32", 5, 100, 100, 104, 104, 900, 900);
        thinStays(due, "500 exactly", 500, 0, 0, 300, 400, 900, 900);
        thin(due, "just below 500", 500, at(0, 0, 300, 399, 900, 900), at(0, 0, 900, 900));
    }

    private static void latestKept(Due due) {
        due.about("from the latest point before it that was kept");
        thin(due, "steps of 3", 5, at(0, 0, 3, 0, 6, 0, 9, 0, 12, 0, 15, 0), at(0, 0, 6, 0, 12, 0, 15, 0));
        // (4, 0) is removed, so (7, 0) is far enough from (0, 0); then (10, 0) is near to (7, 0).
        thin(due, "not from one that was removed", 5, at(0, 0, 4, 0, 7, 0, 10, 0, 500, 0),
                at(0, 0, 7, 0, 500, 0));
        // (0, 1) is far from (100, 0), though it is near to the first point.
        thinStays(due, "not from the first one", 5, 0, 0, 100, 0, 0, 1, 500, 500);
    }

    private static void thinRepeats(Due due) {
        due.about("Then, of points that are the same as the point before them (as it is kept), the "
                + "last one of the stroke included, these are removed.");
        thin(due, "a bow becomes a point", 9, at(5, 6, 9, 9, 5, 6), at(5, 6));
        thin(due, "the last repeats the latest kept", 9, at(0, 0, 50, 6, 51, 6, 50, 6), at(0, 0, 50, 6));
        thin(due, "many near ones", 9, at(5, 6, 6, 6, 7, 6, 6, 6, 5, 6), at(5, 6));
        thin(due, "near to it is not the same", 9, at(0, 0, 50, 6, 51, 6, 50, 7), at(0, 0, 50, 6, 50, 7));
        thinStays(due, "it comes again behind another", 9, 5, 6, 50, 6, 5, 6);
    }

    private static void distances(Due due) {
        due.about("1 to 500");
        int[] wrong = {0, 501, -1, -500, Integer.MIN_VALUE, Integer.MAX_VALUE};
        for (int distance : wrong) {
            InkPad pad = new InkPad();
            due.draws(pad, 0, 0, 0, 1, 0, 2, 0);
            due.is("thin(0, " + distance + ")", pad.thin(0, distance), InkPad.BAD_VALUE);
            due.is("points", pad.stroke(0, 1), 3);
        }
        thinStays(due, "the least distance", 1, 0, 0, 1, 0, 0, 0, 0, 1, 1, 1);
        thin(due, "one more", 2, at(0, 0, 1, 0, 2, 0, 3, 0), at(0, 0, 2, 0, 3, 0));
        thin(due, "the greatest distance", 500, at(0, 0, 499, 0, 500, 0, 501, 0), at(0, 0, 500, 0, 501, 0));
    }

    private static void thinAnswers(Due due) {
        due.about("Returns the number of its points then; UNKNOWN; BAD_VALUE; NONE if it stays as it is.");
        InkPad pad = new InkPad();
        due.is("thin(0, 1) of none", pad.thin(0, 1), InkPad.UNKNOWN);
        due.draws(pad, 0, 0, 0, 1, 0, 2, 0);
        due.is("thin(1, 5)", pad.thin(1, 5), InkPad.UNKNOWN);
        due.is("thin(-1, 5)", pad.thin(-1, 5), InkPad.UNKNOWN);
        due.is("thin(16, 5)", pad.thin(16, 5), InkPad.UNKNOWN);
        due.is("thin(greatest, 5)", pad.thin(Integer.MAX_VALUE, 5), InkPad.UNKNOWN);
        due.is("thin(0, 5)", pad.thin(0, 5), 2);
        due.is("thin(0, 5) again", pad.thin(0, 5), InkPad.NONE);
    }

    private static void staysAsItIs(Due due) {
        due.about("NONE if it stays as it is.");
        InkPad pad = new InkPad();
        due.row(pad, 24, 100, 50);
        due.is("draw(0)", pad.draw(0), 0);
        due.draws(pad, 1, 10, 10, 20, 20, 30, 30);
        due.draws(pad, 2, 700, 700, 500, 500, 300, 300, 100, 100);
        due.draws(pad, 3, 9, 9);
        for (int round = 0; round < 2; round++) {
            for (int stroke = 3; stroke >= 0; stroke--) {
                due.is("smooth(" + stroke + ", 1)", pad.smooth(stroke, 1), InkPad.NONE);
                due.is("thin(" + stroke + ", 1)", pad.thin(stroke, 1), InkPad.NONE);
            }
            for (int stroke = 0; stroke <= 3; stroke++) {
                due.is("smooth(" + stroke + ", 8)", pad.smooth(stroke, 8), InkPad.NONE);
            }
        }
        due.is("count(8)", pad.count(8), 4);
        // As many points as before, of which a single coordinate is another one.
        InkPad one = new InkPad();
        due.draws(one, 0, 0, 0, 5, 9, 10, 18, 15, 31);
        due.is("smooth(0, 1), one y", one.smooth(0, 1), 4);
        due.points("one y", one, 0, 0, 0, 5, 9, 10, 19, 15, 31);
        due.is("count(8)", one.count(8), 2);
        InkPad other = new InkPad();
        due.draws(other, 0, 0, 0, 9, 5, 18, 10, 31, 15);
        due.is("smooth(0, 1), one x", other.smooth(0, 1), 4);
        due.points("one x", other, 0, 0, 0, 9, 5, 19, 10, 31, 15);
    }
}
