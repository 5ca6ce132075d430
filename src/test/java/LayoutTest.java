/** Promises 19 to 22: read, line, word, setGap. */
public final class LayoutTest {
    public static void main(String[] args) {
        Due due = new Due();
        read(due);
        share(due);
        most(due);
        bands(due);
        numbers(due);
        words(due);
        greatestRight(due);
        gap(due);
        changes(due);
        askedFirst(due);
        errors(due);
        due.end();
    }

    /** Draws a stroke with the given left, right, top and bottom. */
    private static int box(Due due, InkPad pad, int left, int right, int top, int bottom) {
        return due.draws(pad, 0, left, bottom, right, top);
    }

    private static void read(Due due) {
        InkPad pad = new InkPad();
        box(due, pad, 300, 310, 500, 510);
        box(due, pad, 100, 110, 505, 512);
        box(due, pad, 700, 710, 100, 120);
        box(due, pad, 100, 190, 500, 510);
        due.is("read(0)", pad.read(0), 2);
        due.is("read(1)", pad.read(1), 1);
        due.is("read(2), the same left", pad.read(2), 3);
        due.is("read(3)", pad.read(3), 0);
        due.is("read(4)", pad.read(4), InkPad.NONE);
        due.is("read(greatest)", pad.read(Integer.MAX_VALUE), InkPad.NONE);
        due.is("read(-1)", pad.read(-1), InkPad.BAD_VALUE);
        for (int place = 0; place < 4; place++) {
            due.is("place of read(" + place + ")", pad.stroke(pad.read(place), 9), place);
        }
    }

    private static void share(Due due) {
        // 10 units high, of which 5 are shared: just enough.
        twoLines(due, 100, 109, 105, 200, 1);
        twoLines(due, 100, 109, 106, 200, 2);
        // 11 units high: 5 are not enough, 6 are.
        twoLines(due, 100, 110, 106, 200, 2);
        twoLines(due, 100, 110, 105, 200, 1);
        // The lesser height counts, whichever it is, and one unit is enough for one unit.
        twoLines(due, 105, 200, 100, 109, 1);
        twoLines(due, 106, 200, 100, 109, 2);
        twoLines(due, 0, 1000, 1000, 1000, 1);
        twoLines(due, 7, 7, 0, 1000, 1);
        twoLines(due, 7, 8, 8, 9, 1);
        twoLines(due, 7, 9, 9, 11, 2);
        twoLines(due, 7, 7, 8, 8, 2);
        twoLines(due, 8, 8, 7, 7, 2);
        twoLines(due, 0, 5, 900, 905, 2);
    }

    private static void twoLines(Due due, int top, int bottom, int top2, int bottom2, int want) {
        InkPad pad = new InkPad();
        box(due, pad, 0, 0, top, bottom);
        box(due, pad, 500, 500, top2, bottom2);
        due.is("lines of " + top + ".." + bottom + " and " + top2 + ".." + bottom2,
                pad.count(3), want);
    }

    private static void most(Due due) {
        InkPad pad = new InkPad();
        box(due, pad, 0, 0, 200, 209);
        box(due, pad, 0, 0, 100, 109);
        box(due, pad, 0, 0, 107, 204);
        // It shares 5 with the first one and 3 with the second one.
        due.is("its line", pad.stroke(2, 7), 1);
        InkPad other = new InkPad();
        box(due, other, 0, 0, 200, 209);
        box(due, other, 0, 0, 100, 109);
        box(due, other, 0, 0, 104, 204);
        due.is("the line with the greater share", other.stroke(2, 7), 0);
        InkPad even = new InkPad();
        box(due, even, 0, 0, 200, 209);
        box(due, even, 0, 0, 100, 109);
        box(due, even, 0, 0, 105, 204);
        due.is("of several the one begun first", even.stroke(2, 7), 1);
        due.is("of several: T of line 1", even.line(1, 0), 105);
        InkPad unable = new InkPad();
        box(due, unable, 0, 0, 0, 99);
        box(due, unable, 0, 0, 110, 121);
        // It shares 20 with the first, which is less than half of either, and 12 with the second.
        box(due, unable, 0, 0, 80, 150);
        due.is("a greater share that may not be joined", unable.stroke(2, 7), 1);
        due.is("B of the line that it joined", unable.line(1, 1), 150);
    }

    private static void bands(Due due) {
        InkPad pad = new InkPad();
        box(due, pad, 0, 0, 100, 109);
        box(due, pad, 0, 0, 105, 114);
        due.is("T of a grown line", pad.line(0, 0), 100);
        due.is("B of a grown line", pad.line(0, 1), 114);
        box(due, pad, 0, 0, 112, 114);
        due.is("one that only the grown band takes", pad.stroke(2, 7), 0);
        due.is("strokes of the line", pad.line(0, 2), 3);
        box(due, pad, 0, 0, 98, 103);
        due.is("T grows upwards", pad.line(0, 0), 98);
        due.is("B stays", pad.line(0, 1), 114);
        // The order of the strokes matters: the first one goes alone, for the bridge comes later.
        InkPad bridge = new InkPad();
        box(due, bridge, 0, 0, 100, 109);
        box(due, bridge, 0, 0, 110, 119);
        box(due, bridge, 0, 0, 100, 119);
        due.is("lines stay apart", bridge.count(3), 2);
        due.is("the bridge joins the first", bridge.stroke(2, 7), 0);
        due.is("bands may overlap", bridge.line(0, 1), 119);
    }

    private static void numbers(Due due) {
        InkPad pad = new InkPad();
        box(due, pad, 0, 0, 500, 510);
        box(due, pad, 0, 0, 300, 310);
        box(due, pad, 0, 0, 400, 410);
        due.is("line of 0", pad.stroke(0, 7), 2);
        due.is("line of 1", pad.stroke(1, 7), 0);
        due.is("line of 2", pad.stroke(2, 7), 1);
        // Growing gives this line the T of another one: then B decides.
        InkPad same = new InkPad();
        box(due, same, 0, 0, 110, 119);
        box(due, same, 0, 0, 100, 109);
        box(due, same, 0, 0, 105, 114);
        box(due, same, 0, 0, 100, 114);
        due.is("T of line 0", same.line(0, 0), 100);
        due.is("B of line 0", same.line(0, 1), 109);
        due.is("T of line 1", same.line(1, 0), 100);
        due.is("B of line 1", same.line(1, 1), 119);
        due.is("the line with the lesser B is first", same.stroke(1, 7), 0);
        // Two lines never have the same band: a stroke that made them so would share more with
        // the one that has it already. So the order in which they were begun is not seen here.
    }

    private static void words(Due due) {
        InkPad pad = new InkPad();
        box(due, pad, 100, 120, 10, 20);
        box(due, pad, 140, 150, 10, 20);
        box(due, pad, 171, 180, 10, 20);
        box(due, pad, 0, 5, 500, 510);
        box(due, pad, 172, 900, 10, 20);
        due.is("count(4)", pad.count(4), 3);
        word(due, pad, 0, 0, 2, 100, 150, 0);
        word(due, pad, 1, 0, 2, 171, 900, 2);
        word(due, pad, 2, 1, 1, 0, 5, 4);
        due.is("words of line 0", pad.line(0, 3), 2);
        due.is("words of line 1", pad.line(1, 3), 1);
        due.is("first word of line 0", pad.line(0, 4), 0);
        due.is("first word of line 1", pad.line(1, 4), 2);
        due.is("strokes of line 0", pad.line(0, 2), 4);
        due.is("strokes of line 1", pad.line(1, 2), 1);
        due.is("word of stroke 1", pad.stroke(1, 8), 0);
        due.is("word of stroke 2", pad.stroke(2, 8), 1);
        due.is("word of stroke 3", pad.stroke(3, 8), 2);
        due.is("word of stroke 4", pad.stroke(4, 8), 1);
    }

    private static void word(Due due, InkPad pad, int word, int... wanted) {
        for (int what = 0; what < wanted.length; what++) {
            due.is("word(" + word + ", " + what + ")", pad.word(word, what), wanted[what]);
        }
    }

    private static void greatestRight(Due due) {
        InkPad pad = new InkPad();
        box(due, pad, 0, 300, 10, 20);
        box(due, pad, 50, 60, 10, 20);
        box(due, pad, 320, 330, 10, 20);
        box(due, pad, 351, 352, 10, 20);
        due.is("the greatest right of the word counts", pad.count(4), 2);
        word(due, pad, 0, 0, 3, 0, 330, 0);
        word(due, pad, 1, 0, 1, 351, 352, 3);
        // A word of another line does not count.
        box(due, pad, 340, 360, 700, 710);
        due.is("another line", pad.count(4), 3);
        word(due, pad, 2, 1, 1, 340, 360, 4);
    }

    private static void gap(Due due) {
        InkPad pad = new InkPad();
        box(due, pad, 0, 0, 10, 20);
        box(due, pad, 500, 500, 10, 20);
        due.is("setGap(-1)", pad.setGap(-1), InkPad.BAD_VALUE);
        due.is("setGap(501)", pad.setGap(501), InkPad.BAD_VALUE);
        due.is("setGap(500)", pad.setGap(500), 20);
        due.is("count(4) then", pad.count(4), 1);
        due.is("setGap(499)", pad.setGap(499), 500);
        due.is("count(4) then", pad.count(4), 2);
        due.is("setGap(0)", pad.setGap(0), 499);
        due.is("count(10)", pad.count(10), 0);
        due.is("setGap(0) again", pad.setGap(0), 0);
        due.is("no act", pad.count(8), 2);
        box(due, pad, 500, 510, 10, 20);
        box(due, pad, 511, 511, 10, 20);
        due.is("gap 0: the same is no gap", pad.count(4), 3);
        due.is("undo", pad.undo(), 3);
        due.is("undo keeps the gap", pad.count(10), 0);
    }

    private static void changes(Due due) {
        InkPad pad = new InkPad();
        box(due, pad, 0, 10, 100, 110);
        box(due, pad, 20, 30, 100, 110);
        due.is("count(3)", pad.count(3), 1);
        due.is("shift(0, 0, 500)", pad.shift(0, 0, 500), 2);
        due.is("count(3)", pad.count(3), 2);
        due.is("read(0)", pad.read(0), 1);
        due.is("undo", pad.undo(), 2);
        due.is("count(3)", pad.count(3), 1);
        due.is("read(0)", pad.read(0), 0);
        due.is("redo", pad.redo(), 0);
        due.is("line(1, 0)", pad.line(1, 0), 600);
        due.is("line(0, 2)", pad.line(0, 2), 1);
        due.is("remove(0)", pad.remove(0), 1);
        due.is("line(1, 0)", pad.line(1, 0), InkPad.UNKNOWN);
        due.is("word(0, 2)", pad.word(0, 2), 20);
    }

    /** Each question, asked first, knows the strokes. */
    private static void askedFirst(Due due) {
        due.is("first: count(3)", twoWords(due).count(3), 2);
        due.is("first: count(4)", twoWords(due).count(4), 2);
        due.is("first: read(0)", twoWords(due).read(0), 1);
        due.is("first: line(1, 0)", twoWords(due).line(1, 0), 90);
        due.is("first: line(1, 4)", twoWords(due).line(1, 4), 1);
        due.is("first: word(1, 0)", twoWords(due).word(1, 0), 1);
        due.is("first: stroke(0, 7)", twoWords(due).stroke(0, 7), 1);
        due.is("first: stroke(0, 8)", twoWords(due).stroke(0, 8), 1);
        due.is("first: stroke(0, 9)", twoWords(due).stroke(0, 9), 1);
    }

    private static InkPad twoWords(Due due) {
        InkPad pad = new InkPad();
        box(due, pad, 1, 2, 90, 95);
        box(due, pad, 3, 4, 10, 15);
        return pad;
    }

    private static void errors(Due due) {
        InkPad pad = new InkPad();
        due.is("line(0, 9) of nothing", pad.line(0, 9), InkPad.UNKNOWN);
        due.is("word(0, 9) of nothing", pad.word(0, 9), InkPad.UNKNOWN);
        box(due, pad, 1, 1, 3, 4);
        due.is("line(-1, 0)", pad.line(-1, 0), InkPad.UNKNOWN);
        due.is("line(1, 7)", pad.line(1, 7), InkPad.UNKNOWN);
        due.is("line(0, -1)", pad.line(0, -1), InkPad.BAD_VALUE);
        due.is("line(0, 5)", pad.line(0, 5), InkPad.BAD_VALUE);
        due.is("line(0, 4)", pad.line(0, 4), 0);
        due.is("word(-1, 0)", pad.word(-1, 0), InkPad.UNKNOWN);
        due.is("word(1, 7)", pad.word(1, 7), InkPad.UNKNOWN);
        due.is("word(0, -1)", pad.word(0, -1), InkPad.BAD_VALUE);
        due.is("word(0, 5)", pad.word(0, 5), InkPad.BAD_VALUE);
        due.is("word(0, 4)", pad.word(0, 4), 0);
        due.is("word(greatest, 0)", pad.word(Integer.MAX_VALUE, 0), InkPad.UNKNOWN);
    }
}
