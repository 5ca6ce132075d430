/** The edges of lines, words and the gap, a test for each sentence (promises 19 to 22). */
public final class LayoutEdgesTest {
    public static void main(String[] args) {
        Due due = new Due();
        unitsOfHeight(due);
        atLeastOne(due);
        atLeastTheHalf(due);
        lesserOfBoth(due);
        sharesMost(due);
        mostOfThoseItMayJoin(due);
        begunFirst(due);
        bandGrows(due);
        beginsANewLine(due);
        byTheirNumbers(due);
        ascendingTop(due);
        ascendingBottom(due);
        ascendingLeft(due);
        sameLeft(due);
        greaterThanRightPlusGap(due);
        greatestRightOfTheWord(due);
        wordsByLines(due);
        readingOrder(due);
        readPlaces(due);
        oneStroke(due);
        sixteenLines(due);
        sixteenWords(due);
        lineAnswers(due);
        wordAnswers(due);
        gapRange(due);
        gapAtFirst(due);
        gapEdges(due);
        noAct(due);
        askedFirst(due);
        askedAgain(due);
        due.end();
    }

    /** Draws a stroke with the given left, right, top and bottom. */
    private static void box(Due due, InkPad pad, int left, int right, int top, int bottom) {
        due.draws(pad, 0, left, bottom, right, top);
    }

    /** A pad with strokes of the given tops and bottoms, all of them at the same left. */
    private static InkPad bands(Due due, int... heights) {
        InkPad pad = new InkPad();
        for (int i = 0; i < heights.length; i += 2) {
            box(due, pad, 50, 60, heights[i], heights[i + 1]);
        }
        return pad;
    }

    /** A pad with strokes of the given lefts and rights, all of them in one line. */
    private static InkPad spans(Due due, int... widths) {
        InkPad pad = new InkPad();
        for (int i = 0; i < widths.length; i += 2) {
            box(due, pad, widths[i], widths[i + 1], 100, 110);
        }
        return pad;
    }

    private static void linesOf(Due due, InkPad pad, int... wanted) {
        int lines = 0;
        for (int stroke = 0; stroke < wanted.length; stroke++) {
            due.is("line of stroke " + stroke, pad.stroke(stroke, 7), wanted[stroke]);
            lines = Math.max(lines, wanted[stroke] + 1);
        }
        due.is("count(3)", pad.count(3), lines);
        due.is("line(" + (lines - 1) + ", 2) is there", pad.line(lines - 1, 2) > 0 ? 1 : 0, 1);
        due.is("line(" + lines + ", 2)", pad.line(lines, 2), InkPad.UNKNOWN);
    }

    private static void wordsOf(Due due, InkPad pad, int... wanted) {
        int words = 0;
        for (int stroke = 0; stroke < wanted.length; stroke++) {
            due.is("word of stroke " + stroke, pad.stroke(stroke, 8), wanted[stroke]);
            words = Math.max(words, wanted[stroke] + 1);
        }
        due.is("count(4)", pad.count(4), words);
        due.is("word(" + (words - 1) + ", 1) is there", pad.word(words - 1, 1) > 0 ? 1 : 0, 1);
        due.is("word(" + words + ", 1)", pad.word(words, 1), InkPad.UNKNOWN);
    }

    private static void band(Due due, InkPad pad, int line, int top, int bottom) {
        due.is("T of line " + line, pad.line(line, 0), top);
        due.is("B of line " + line, pad.line(line, 1), bottom);
    }

    private static void unitsOfHeight(Due due) {
        due.about("A stroke with the top t and the bottom b shares with a line, whose band goes from T "
                + "to B, min(b, B) - max(t, T) + 1 units of height.");
        // A stroke one unit high shares 1 with a band that it lies in, also at the edges of the band.
        linesOf(due, bands(due, 100, 200, 100, 100), 0, 0);
        linesOf(due, bands(due, 100, 200, 200, 200), 0, 0);
        linesOf(due, bands(due, 100, 200, 150, 150), 0, 0);
        linesOf(due, bands(due, 100, 200, 99, 99), 1, 0);
        linesOf(due, bands(due, 100, 200, 201, 201), 0, 1);
        linesOf(due, bands(due, 0, 1000, 0, 0, 1000, 1000), 0, 0, 0);
        linesOf(due, bands(due, 0, 0, 1000, 1000), 0, 1);
    }

    private static void atLeastOne(Due due) {
        due.about("It may join the line if this is at least 1,");
        linesOf(due, bands(due, 100, 100, 100, 100), 0, 0);
        linesOf(due, bands(due, 100, 100, 101, 101), 0, 1);
        linesOf(due, bands(due, 101, 101, 100, 100), 1, 0);
        linesOf(due, bands(due, 100, 101, 101, 102), 0, 0);
        linesOf(due, bands(due, 100, 101, 102, 103), 0, 1);
        linesOf(due, bands(due, 100, 109, 800, 809), 0, 1);
        linesOf(due, bands(due, 800, 809, 100, 109), 1, 0);
    }

    private static void atLeastTheHalf(Due due) {
        due.about("and twice this is at least the lesser one of b - t + 1 and B - T + 1.");
        // Of 10 units 5, 4; of 11 units 6, 5; of 3 units 2, 1.
        linesOf(due, bands(due, 100, 109, 105, 114), 0, 0);
        linesOf(due, bands(due, 100, 109, 106, 115), 0, 1);
        linesOf(due, bands(due, 105, 114, 100, 109), 0, 0);
        linesOf(due, bands(due, 106, 115, 100, 109), 1, 0);
        linesOf(due, bands(due, 100, 110, 105, 115), 0, 0);
        linesOf(due, bands(due, 100, 110, 106, 116), 0, 1);
        linesOf(due, bands(due, 100, 102, 101, 103), 0, 0);
        linesOf(due, bands(due, 100, 102, 102, 104), 0, 1);
    }

    private static void lesserOfBoth(Due due) {
        due.about("and twice this is at least the lesser one of b - t + 1 and B - T + 1.");
        linesOf(due, bands(due, 100, 109, 105, 900), 0, 0);
        linesOf(due, bands(due, 100, 109, 106, 900), 0, 1);
        linesOf(due, bands(due, 105, 900, 100, 109), 0, 0);
        linesOf(due, bands(due, 106, 900, 100, 109), 1, 0);
        // The band of the line counts, not the strokes in it: 101 to 900 is 800 high with a new one.
        InkPad grown = bands(due, 100, 109, 105, 900);
        box(due, grown, 50, 60, 880, 940);
        linesOf(due, grown, 0, 0, 1);
        box(due, grown, 50, 60, 870, 930);
        due.is("one that shares 31 of 61 with line 0, and 51 with line 1", grown.stroke(3, 7), 1);
    }

    private static void sharesMost(Due due) {
        due.about("It joins the line with which it shares most, of several the one that was begun first,");
        linesOf(due, bands(due, 100, 109, 200, 209, 104, 204), 0, 1, 0);
        linesOf(due, bands(due, 100, 109, 200, 209, 105, 205), 0, 1, 1);
        linesOf(due, bands(due, 200, 209, 100, 109, 104, 204), 1, 0, 0);
        linesOf(due, bands(due, 200, 209, 100, 109, 105, 205), 1, 0, 1);
        linesOf(due, bands(due, 100, 109, 200, 209, 300, 319, 100, 319), 0, 2, 1, 1);
    }

    private static void mostOfThoseItMayJoin(Due due) {
        due.about("It joins the line with which it shares most, of several the one that was begun first,");
        // It shares 20 with the first, which is less than half of 71 and of 100, and 12 with the second.
        InkPad pad = bands(due, 0, 99, 110, 121, 80, 150);
        linesOf(due, pad, 0, 1, 1);
        band(due, pad, 0, 0, 99);
        band(due, pad, 1, 80, 150);
    }

    private static void begunFirst(Due due) {
        due.about("of several the one that was begun first,");
        InkPad lower = bands(due, 200, 209, 100, 109, 105, 204);
        linesOf(due, lower, 1, 0, 1);
        band(due, lower, 0, 100, 109);
        band(due, lower, 1, 105, 209);
        InkPad upper = bands(due, 100, 109, 200, 209, 105, 204);
        linesOf(due, upper, 0, 1, 0);
        band(due, upper, 0, 100, 204);
        // Begun first means the line, not its strokes: the line of 0 has the latest stroke, too.
        linesOf(due, bands(due, 200, 209, 100, 109, 200, 209, 105, 204), 1, 0, 1, 1);
        linesOf(due, bands(due, 100, 109, 200, 209, 200, 209, 105, 204), 0, 1, 1, 0);
    }

    private static void bandGrows(Due due) {
        due.about("and the band of the line grows to min(t, T) to max(b, B);");
        band(due, bands(due, 100, 109), 0, 100, 109);
        band(due, bands(due, 100, 109, 102, 105), 0, 100, 109);
        band(due, bands(due, 100, 109, 95, 105), 0, 95, 109);
        band(due, bands(due, 100, 109, 105, 115), 0, 100, 115);
        band(due, bands(due, 100, 109, 0, 1000), 0, 0, 1000);
        // With 105 to 114 the line takes 112 to 114, which the first stroke alone would not.
        linesOf(due, bands(due, 100, 109, 105, 114, 112, 114), 0, 0, 0);
        linesOf(due, bands(due, 100, 109, 112, 114, 105, 114), 0, 1, 0);
        linesOf(due, bands(due, 100, 109, 95, 104, 95, 97), 0, 0, 0);
    }

    private static void beginsANewLine(Due due) {
        due.about("if it may join none, it begins a new line with the band t to b.");
        InkPad pad = bands(due, 500, 520, 100, 110, 900, 900);
        linesOf(due, pad, 1, 0, 2);
        band(due, pad, 0, 100, 110);
        band(due, pad, 1, 500, 520);
        band(due, pad, 2, 900, 900);
        for (int line = 0; line < 3; line++) {
            due.is("strokes of line " + line, pad.line(line, 2), 1);
        }
    }

    private static void byTheirNumbers(Due due) {
        due.about("The strokes are gone through by their numbers.");
        // The bridge between two bands makes one line of them only if it is gone through in time.
        linesOf(due, bands(due, 100, 109, 110, 119, 100, 119), 0, 1, 0);
        linesOf(due, bands(due, 100, 109, 100, 119, 110, 119), 0, 0, 0);
        linesOf(due, bands(due, 100, 119, 100, 109, 110, 119), 0, 0, 0);
    }

    private static void ascendingTop(Due due) {
        due.about("When all strokes have been gone through, the lines are numbered from 0 by ascending T,");
        linesOf(due, bands(due, 300, 310, 200, 210, 100, 110), 2, 1, 0);
        linesOf(due, bands(due, 200, 210, 300, 310, 100, 110), 1, 2, 0);
        // The T that a line has grown to counts, and a lesser T with a greater B is before.
        InkPad grown = bands(due, 110, 119, 105, 106, 100, 300);
        linesOf(due, grown, 0, 1, 0);
        band(due, grown, 0, 100, 300);
        band(due, grown, 1, 105, 106);
    }

    private static void ascendingBottom(Due due) {
        due.about("of several by ascending B,");
        InkPad pad = bands(due, 110, 119, 100, 109, 105, 114, 100, 114);
        linesOf(due, pad, 1, 0, 1, 1);
        band(due, pad, 0, 100, 109);
        band(due, pad, 1, 100, 119);
        // A band of one unit with the same T, begun behind the greater one and before it.
        InkPad behind = bands(due, 105, 114, 100, 100, 100, 109);
        linesOf(due, behind, 1, 0, 1);
        band(due, behind, 0, 100, 100);
        band(due, behind, 1, 100, 114);
        linesOf(due, bands(due, 100, 100, 105, 114, 100, 109), 0, 1, 1);
        // The number of the line decides nothing while T differs: the lesser B is behind here.
        InkPad inside = bands(due, 200, 201, 206, 215, 190, 211);
        linesOf(due, inside, 1, 0, 0);
    }

    private static void ascendingLeft(Due due) {
        due.about("In a line, the strokes are put in order by ascending left, of several by ascending "
                + "numbers.");
        InkPad pad = spans(due, 300, 310, 0, 900, 299, 300, 301, 301);
        int[] order = {1, 2, 0, 3};
        for (int place = 0; place < order.length; place++) {
            due.is("read(" + place + ")", pad.read(place), order[place]);
            due.is("place of " + order[place], pad.stroke(order[place], 9), place);
        }
    }

    private static void sameLeft(Due due) {
        due.about("of several by ascending numbers.");
        InkPad pad = spans(due, 50, 90, 50, 50, 10, 20, 50, 70, 10, 1000);
        int[] order = {2, 4, 0, 1, 3};
        for (int place = 0; place < order.length; place++) {
            due.is("read(" + place + ")", pad.read(place), order[place]);
        }
        InkPad full = new InkPad();
        for (int stroke = 0; stroke < 16; stroke++) {
            box(due, full, 40, 40 + stroke, 100, 110);
        }
        for (int place = 0; place < 16; place++) {
            due.is("read(" + place + ") of 16", full.read(place), place);
        }
    }

    private static void greaterThanRightPlusGap(Due due) {
        due.about("A new word begins with the first stroke, and with each stroke whose left is greater "
                + "than the greatest right of the strokes of the word so far, plus the gap "
                + "(0 to 500, at first 20).");
        wordsOf(due, spans(due, 0, 100, 120, 130), 0, 0);
        wordsOf(due, spans(due, 0, 100, 121, 130), 0, 1);
        wordsOf(due, spans(due, 121, 130, 0, 100), 1, 0);
        wordsOf(due, spans(due, 0, 100, 50, 60, 100, 100), 0, 0, 0);
        wordsOf(due, spans(due, 979, 1000, 959, 959, 0, 938), 1, 1, 0);
    }

    private static void greatestRightOfTheWord(Due due) {
        due.about("the greatest right of the strokes of the word so far,");
        wordsOf(due, spans(due, 0, 300, 10, 20, 320, 330, 351, 360), 0, 0, 0, 1);
        wordsOf(due, spans(due, 0, 300, 10, 20, 321, 330), 0, 0, 1);
        // A former word's right is none of this word's: both are asked for themselves.
        InkPad pad = spans(due, 0, 100, 121, 122, 143, 144, 164, 165);
        wordsOf(due, pad, 0, 1, 2, 2);
        int[] rights = {100, 122, 165};
        for (int word = 0; word < 3; word++) {
            due.is("word(" + word + ", 3)", pad.word(word, 3), rights[word]);
        }
        // Nor is the right of a stroke of another line.
        InkPad lines = new InkPad();
        box(due, lines, 0, 900, 100, 110);
        box(due, lines, 10, 20, 500, 510);
        box(due, lines, 41, 50, 500, 510);
        wordsOf(due, lines, 0, 1, 2);
    }

    private static void wordsByLines(Due due) {
        due.about("Words are numbered from 0, by lines, and in a line in this order.");
        InkPad pad = new InkPad();
        box(due, pad, 500, 510, 500, 510);
        box(due, pad, 700, 710, 100, 110);
        box(due, pad, 0, 10, 500, 510);
        box(due, pad, 300, 310, 100, 110);
        wordsOf(due, pad, 3, 1, 2, 0);
        due.is("first word of line 0", pad.line(0, 4), 0);
        due.is("first word of line 1", pad.line(1, 4), 2);
        due.is("words of line 0", pad.line(0, 3), 2);
        due.is("words of line 1", pad.line(1, 3), 2);
        // A word ends with its line, also where the next stroke would be near enough.
        InkPad near = new InkPad();
        box(due, near, 0, 10, 100, 110);
        box(due, near, 5, 15, 500, 510);
        wordsOf(due, near, 0, 1);
    }

    private static void readingOrder(Due due) {
        due.about("The reading order of the strokes is: by lines, and in a line in this order.");
        InkPad pad = new InkPad();
        box(due, pad, 500, 510, 500, 510);
        box(due, pad, 700, 710, 100, 110);
        box(due, pad, 0, 10, 500, 510);
        box(due, pad, 300, 310, 100, 110);
        int[] order = {3, 1, 2, 0};
        for (int place = 0; place < 4; place++) {
            due.is("read(" + place + ")", pad.read(place), order[place]);
            due.is("stroke(" + order[place] + ", 9)", pad.stroke(order[place], 9), place);
            due.is("word(" + place + ", 4)", pad.word(place, 4), place);
        }
    }

    private static void readPlaces(Due due) {
        due.about("Returns the stroke there; BAD_VALUE if place is negative; NONE if there are not so "
                + "many strokes.");
        InkPad pad = new InkPad();
        due.is("read(0) of none", pad.read(0), InkPad.NONE);
        due.is("read(-1) of none", pad.read(-1), InkPad.BAD_VALUE);
        due.column(pad, 16, 0, 10, 10);
        due.is("read(0)", pad.read(0), 0);
        due.is("read(15)", pad.read(15), 15);
        due.is("read(16)", pad.read(16), InkPad.NONE);
        due.is("read(17)", pad.read(17), InkPad.NONE);
        due.is("read(greatest)", pad.read(Integer.MAX_VALUE), InkPad.NONE);
        due.is("read(-1)", pad.read(-1), InkPad.BAD_VALUE);
        due.is("read(least)", pad.read(Integer.MIN_VALUE), InkPad.BAD_VALUE);
        due.is("remove(15)", pad.remove(15), 15);
        due.is("read(15) of 15 strokes", pad.read(15), InkPad.NONE);
    }

    private static void oneStroke(Due due) {
        due.about("A new word begins with the first stroke,");
        InkPad pad = new InkPad();
        due.draws(pad, 2, 0, 0);
        int[] line = {0, 0, 1, 1, 0};
        int[] word = {0, 1, 0, 0, 0};
        for (int what = 0; what < 5; what++) {
            due.is("line(0, " + what + ")", pad.line(0, what), line[what]);
            due.is("word(0, " + what + ")", pad.word(0, what), word[what]);
        }
        linesOf(due, pad, 0);
        wordsOf(due, pad, 0);
    }

    private static void sixteenLines(Due due) {
        due.about("the lines are numbered from 0 by ascending T,");
        InkPad pad = new InkPad();
        for (int stroke = 0; stroke < 16; stroke++) {
            box(due, pad, 10, 20, 900 - 50 * stroke, 910 - 50 * stroke);
        }
        due.is("count(3)", pad.count(3), 16);
        due.is("count(4)", pad.count(4), 16);
        for (int line = 0; line < 16; line++) {
            band(due, pad, line, 150 + 50 * line, 160 + 50 * line);
            due.is("line of stroke " + (15 - line), pad.stroke(15 - line, 7), line);
            due.is("words of line " + line, pad.line(line, 3), 1);
            due.is("first word of line " + line, pad.line(line, 4), line);
        }
        due.is("line(16, 0)", pad.line(16, 0), InkPad.UNKNOWN);
        due.is("word(16, 0)", pad.word(16, 0), InkPad.UNKNOWN);
    }

    private static void sixteenWords(Due due) {
        due.about("Words are numbered from 0,");
        InkPad pad = new InkPad();
        for (int stroke = 0; stroke < 16; stroke++) {
            box(due, pad, 900 - 50 * stroke, 910 - 50 * stroke, 10, 20);
        }
        due.is("count(3)", pad.count(3), 1);
        due.is("count(4)", pad.count(4), 16);
        due.is("strokes of the line", pad.line(0, 2), 16);
        due.is("words of the line", pad.line(0, 3), 16);
        for (int word = 0; word < 16; word++) {
            int[] wanted = {0, 1, 150 + 50 * word, 160 + 50 * word, word};
            for (int what = 0; what < 5; what++) {
                due.is("word(" + word + ", " + what + ")", pad.word(word, what), wanted[what]);
            }
        }
        due.is("word(16, 0)", pad.word(16, 0), InkPad.UNKNOWN);
        due.is("setGap(500)", pad.setGap(500), 20);
        due.is("one word of 16", pad.word(0, 1), 16);
        due.is("its greatest right", pad.word(0, 3), 910);
        due.is("word(1, 0)", pad.word(1, 0), InkPad.UNKNOWN);
    }

    private static void lineAnswers(Due due) {
        due.about("0 for T, 1 for B, 2 for the number of its strokes, 3 for the number of its words, "
                + "4 for its first word");
        InkPad pad = new InkPad();
        due.is("line(0, 0) of none", pad.line(0, 0), InkPad.UNKNOWN);
        box(due, pad, 0, 10, 100, 110);
        box(due, pad, 0, 10, 500, 510);
        box(due, pad, 400, 410, 505, 520);
        box(due, pad, 20, 30, 507, 507);
        int[] wanted = {500, 520, 3, 2, 1};
        for (int what = 0; what < 5; what++) {
            due.is("line(1, " + what + ")", pad.line(1, what), wanted[what]);
        }
        int[] wrong = {-1, 2, 16, Integer.MIN_VALUE, Integer.MAX_VALUE};
        for (int line : wrong) {
            due.is("line(" + line + ", 0)", pad.line(line, 0), InkPad.UNKNOWN);
        }
        int[] other = {-1, 5, Integer.MIN_VALUE, Integer.MAX_VALUE};
        for (int what : other) {
            due.is("line(1, " + what + ")", pad.line(1, what), InkPad.BAD_VALUE);
        }
        due.is("remove(2)", pad.remove(2), 3);
        due.is("line(1, 1) when fewer are left", pad.line(1, 1), 510);
        due.is("remove(0)", pad.remove(0), 2);
        due.is("line(1, 1) when its line is the first", pad.line(1, 1), InkPad.UNKNOWN);
    }

    private static void wordAnswers(Due due) {
        due.about("0 for its line, 1 for the number of its strokes, 2 for its least left, 3 for its "
                + "greatest right, 4 for the place of its first stroke in the reading order");
        InkPad pad = new InkPad();
        due.is("word(0, 0) of none", pad.word(0, 0), InkPad.UNKNOWN);
        box(due, pad, 0, 10, 100, 110);
        box(due, pad, 20, 90, 500, 510);
        box(due, pad, 15, 30, 500, 510);
        int[] wanted = {1, 2, 15, 90, 1};
        for (int what = 0; what < 5; what++) {
            due.is("word(1, " + what + ")", pad.word(1, what), wanted[what]);
        }
        int[] wrong = {-1, 2, 16, Integer.MIN_VALUE, Integer.MAX_VALUE};
        for (int word : wrong) {
            due.is("word(" + word + ", 0)", pad.word(word, 0), InkPad.UNKNOWN);
        }
        int[] other = {-1, 5, Integer.MIN_VALUE, Integer.MAX_VALUE};
        for (int what : other) {
            due.is("word(1, " + what + ")", pad.word(1, what), InkPad.BAD_VALUE);
        }
    }

    private static void gapRange(Due due) {
        due.about("Returns the previous gap; BAD_VALUE.");
        InkPad pad = new InkPad();
        int[] wrong = {-1, 501, Integer.MIN_VALUE, Integer.MAX_VALUE};
        for (int gap : wrong) {
            due.is("setGap(" + gap + ")", pad.setGap(gap), InkPad.BAD_VALUE);
        }
        due.is("setGap(500)", pad.setGap(500), 20);
        due.is("setGap(0)", pad.setGap(0), 500);
        due.is("setGap(501)", pad.setGap(501), InkPad.BAD_VALUE);
        due.is("setGap(0), the same", pad.setGap(0), 0);
        due.is("setGap(1)", pad.setGap(1), 0);
        due.is("count(10)", pad.count(10), 1);
    }

    private static void gapAtFirst(Due due) {
        due.about("plus the gap (0 to 500, at first 20).");
        InkPad pad = new InkPad();
        due.is("count(10)", pad.count(10), 20);
        due.is("setGap(20)", pad.setGap(20), 20);
        due.is("count(10)", pad.count(10), 20);
    }

    private static void gapEdges(Due due) {
        due.about("plus the gap (0 to 500, at first 20).");
        InkPad least = spans(due, 0, 100, 100, 200, 201, 300);
        due.is("setGap(0)", least.setGap(0), 20);
        wordsOf(due, least, 0, 0, 1);
        InkPad one = spans(due, 0, 100, 101, 200, 202, 300);
        due.is("setGap(1)", one.setGap(1), 20);
        wordsOf(due, one, 0, 0, 1);
        InkPad greatest = spans(due, 0, 0, 500, 500);
        due.is("setGap(500)", greatest.setGap(500), 20);
        wordsOf(due, greatest, 0, 0);
        InkPad beyond = spans(due, 0, 0, 501, 501);
        due.is("setGap(500)", beyond.setGap(500), 20);
        wordsOf(due, beyond, 0, 1);
    }

    private static void noAct(Due due) {
        due.about("Sets the gap. This is no act.");
        InkPad pad = spans(due, 0, 100, 110, 200);
        due.is("undo()", pad.undo(), 1);
        due.is("setGap(0)", pad.setGap(0), 20);
        due.is("count(8)", pad.count(8), 1);
        due.is("count(9)", pad.count(9), 1);
        due.is("redo()", pad.redo(), 0);
        wordsOf(due, pad, 0, 1);
        due.is("undo()", pad.undo(), 1);
        due.is("undo()", pad.undo(), 0);
        due.is("count(10)", pad.count(10), 0);
    }

    /** Two lines: the stroke that was drawn first is in the second one, with another behind it. */
    private static InkPad three(Due due) {
        InkPad pad = new InkPad();
        box(due, pad, 300, 310, 500, 510);
        box(due, pad, 700, 710, 100, 110);
        box(due, pad, 400, 410, 500, 510);
        return pad;
    }

    private static void askedFirst(Due due) {
        due.about("The reading order of the strokes is: by lines, and in a line in this order.");
        due.is("count(3)", three(due).count(3), 2);
        due.is("count(4)", three(due).count(4), 3);
        due.is("read(2)", three(due).read(2), 2);
        due.is("stroke(0, 7)", three(due).stroke(0, 7), 1);
        due.is("stroke(2, 8)", three(due).stroke(2, 8), 2);
        due.is("stroke(0, 9)", three(due).stroke(0, 9), 1);
        int[] line = {500, 510, 2, 2, 1};
        int[] word = {1, 1, 400, 410, 2};
        for (int what = 0; what < 5; what++) {
            due.is("line(1, " + what + ")", three(due).line(1, what), line[what]);
            due.is("word(2, " + what + ")", three(due).word(2, what), word[what]);
        }
    }

    private static void askedAgain(Due due) {
        due.about("When all strokes have been gone through, the lines are numbered from 0");
        InkPad pad = three(due);
        due.is("word(0, 3)", pad.word(0, 3), 710);
        due.is("line(0, 1)", pad.line(0, 1), 110);
        due.is("shift(1, -690, -90)", pad.shift(1, -690, -90), 2);
        due.is("word(0, 3), less than before", pad.word(0, 3), 20);
        due.is("line(0, 1), less than before", pad.line(0, 1), 20);
        due.is("remove(1)", pad.remove(1), 2);
        due.is("count(3)", pad.count(3), 1);
        due.is("line(0, 2)", pad.line(0, 2), 2);
        due.is("line(0, 4)", pad.line(0, 4), 0);
        due.is("word(1, 4)", pad.word(1, 4), 1);
        due.is("setGap(100)", pad.setGap(100), 20);
        due.is("count(4)", pad.count(4), 1);
        due.is("word(0, 1)", pad.word(0, 1), 2);
        due.is("undo()", pad.undo(), 4);
        due.is("line(0, 2)", pad.line(0, 2), 1);
        due.is("word(1, 3)", pad.word(1, 3), 410);
    }
}
