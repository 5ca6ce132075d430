/** Promises 7 and 8: draw, rub. */
public final class DrawRubTest {
    public static void main(String[] args) {
        Due due = new Due();
        draw(due);
        drawErrors(due);
        rubSplits(due);
        rubEdges(due);
        rubErrors(due);
        rubRoom(due);
        due.end();
    }

    private static void draw(Due due) {
        InkPad pad = new InkPad();
        for (int i = 0; i < 16; i++) {
            due.is("draw number " + i, due.draws(pad, i % 4, i, i, i + 1, i), i);
        }
        due.is("count(0)", pad.count(0), 16);
        due.is("stroke(7, 0)", pad.stroke(7, 0), 3);
        due.points("drawn", pad, 7, 7, 7, 8, 7);
        due.is("draw of an empty buffer, no room", pad.draw(0), InkPad.NOT_POSSIBLE);
        due.puts(pad, 1, 1);
        due.is("draw(0), no room", pad.draw(0), InkPad.FULL);
        due.is("draw(4), no room", pad.draw(4), InkPad.BAD_VALUE);
        due.is("the buffer stays", pad.count(7), 1);
        due.is("an error is no act", pad.undo(), 5);
        due.is("the buffer is no part of a state", pad.count(7), 1);
        due.is("then draw(0)", pad.draw(0), 15);
        due.is("the buffer is empty then", pad.count(7), 0);
    }

    private static void drawErrors(Due due) {
        InkPad pad = new InkPad();
        due.is("draw(-1) of nothing", pad.draw(-1), InkPad.BAD_VALUE);
        due.is("draw(4) of nothing", pad.draw(4), InkPad.BAD_VALUE);
        due.is("draw(0) of nothing", pad.draw(0), InkPad.NOT_POSSIBLE);
        due.is("draw(3) of nothing", pad.draw(3), InkPad.NOT_POSSIBLE);
        due.puts(pad, 1, 1);
        due.is("draw(-1)", pad.draw(-1), InkPad.BAD_VALUE);
        due.is("draw(4)", pad.draw(4), InkPad.BAD_VALUE);
        due.is("errors draw nothing", pad.count(0), 0);
        due.is("errors are no acts", pad.count(8), 0);
        due.is("draw(3)", pad.draw(3), 0);
        due.is("an act", pad.count(8), 1);
    }

    private static void rubSplits(Due due) {
        InkPad pad = new InkPad();
        due.draws(pad, 1, 0, 0, 100, 0, 200, 0, 300, 0, 400, 0, 500, 0);
        due.draws(pad, 2, 200, 10);
        due.draws(pad, 3, 0, 900, 10, 900);
        due.draws(pad, 0, 205, 0, 900, 0);
        due.is("a fault that leaves points behind", due.reads(pad, "5,5 6,6 7"), -109);
        due.is("rub(200, 0, 10)", pad.rub(200, 0, 10), 3);
        due.is("count(0)", pad.count(0), 4);
        due.points("first part", pad, 0, 0, 0, 100, 0);
        due.points("second part", pad, 1, 300, 0, 400, 0, 500, 0);
        due.points("untouched", pad, 2, 0, 900, 10, 900);
        due.points("first point gone", pad, 3, 900, 0);
        due.is("color of the first part", pad.stroke(0, 0), 1);
        due.is("color of the second part", pad.stroke(1, 0), 1);
        due.is("color of the untouched one", pad.stroke(2, 0), 3);
        due.is("color of the last one", pad.stroke(3, 0), 0);
        due.is("one act", pad.undo(), 4);
        due.points("undone", pad, 0, 0, 0, 100, 0, 200, 0, 300, 0, 400, 0, 500, 0);
        due.points("undone", pad, 1, 200, 10);
        due.is("redo", pad.redo(), 0);
        due.is("rub of all", pad.rub(500, 500, 500), 1);
        due.is("then count(0)", pad.count(0), 4);
    }

    private static void rubEdges(Due due) {
        InkPad pad = new InkPad();
        due.draws(pad, 0, 103, 104, 106, 108, 103, 105);
        due.is("just beside it", pad.rub(100, 100, 4), InkPad.NONE);
        due.is("a distance of the radius", pad.rub(100, 100, 5), 1);
        due.points("the first is gone", pad, 0, 106, 108, 103, 105);
        due.is("radius 0 beside a point", pad.rub(106, 107, 0), InkPad.NONE);
        due.is("radius 0 on a point", pad.rub(106, 108, 0), 1);
        due.is("the last one", pad.rub(0, 0, 147), InkPad.NONE);
        due.is("the last one is gone", pad.rub(0, 0, 148), 1);
        due.is("then count(0)", pad.count(0), 0);
        due.is("rub of nothing", pad.rub(0, 0, 500), InkPad.NONE);
        InkPad same = new InkPad();
        due.draws(same, 0, 1, 1, 2, 2, 1, 1, 2, 2, 1, 1);
        due.is("a point that comes again", same.rub(1, 1, 0), 3);
        due.is("its parts", same.count(0), 2);
        due.points("its parts", same, 1, 2, 2);
    }

    private static void rubErrors(Due due) {
        InkPad pad = new InkPad();
        due.draws(pad, 0, 0, 0, 1000, 1000);
        due.is("rub(-1, 0, 1)", pad.rub(-1, 0, 1), InkPad.BAD_VALUE);
        due.is("rub(1001, 0, 1)", pad.rub(1001, 0, 1), InkPad.BAD_VALUE);
        due.is("rub(0, -1, 1)", pad.rub(0, -1, 1), InkPad.BAD_VALUE);
        due.is("rub(0, 1001, 1)", pad.rub(0, 1001, 1), InkPad.BAD_VALUE);
        due.is("rub(0, 0, -1)", pad.rub(0, 0, -1), InkPad.BAD_VALUE);
        due.is("rub(0, 0, 501)", pad.rub(0, 0, 501), InkPad.BAD_VALUE);
        due.is("rub(500, 500, 500)", pad.rub(500, 500, 500), InkPad.NONE);
        due.is("no acts", pad.count(8), 1);
        due.is("rub(1000, 1000, 500)", pad.rub(1000, 1000, 500), 1);
        due.is("rub(0, 0, 500)", pad.rub(0, 0, 500), 1);
    }

    private static void rubRoom(Due due) {
        InkPad pad = new InkPad();
        for (int i = 0; i < 14; i++) {
            due.draws(pad, 0, 900, i);
        }
        due.draws(pad, 1, 0, 0, 500, 0, 0, 1, 500, 0, 0, 2);
        due.is("rub to 17 parts in one less", pad.count(0), 15);
        due.is("rub(500, 0, 0) to 17", pad.rub(500, 0, 0), InkPad.FULL);
        due.is("FULL changes nothing", pad.stroke(14, 1), 5);
        due.is("FULL is no act", pad.undo(), 5);
        due.is("redo of the last stroke", pad.redo(), 0);
        due.is("remove(0)", pad.remove(0), 14);
        due.is("rub(500, 0, 0) to 16", pad.rub(500, 0, 0), 2);
        due.is("16 strokes", pad.count(0), 16);
        due.points("the last part", pad, 15, 0, 2);
        due.is("radius 501 in a full pad", pad.rub(500, 0, 501), InkPad.BAD_VALUE);
        // 16 strokes whose parts would be too many, but most of them are gone.
        InkPad full = new InkPad();
        due.draws(full, 2, 0, 0, 500, 0, 0, 9);
        for (int i = 1; i < 16; i++) {
            due.draws(full, 3, 500, i);
        }
        due.is("parts are counted when all are rubbed", full.rub(500, 8, 8), 16);
        due.is("two parts left", full.count(0), 2);
        due.is("their color", full.stroke(1, 0), 2);
        due.is("undo", full.undo(), 5);
        due.is("one part too many", full.rub(500, 0, 0), InkPad.FULL);
        due.is("remove(15)", full.remove(15), 15);
        due.is("a stroke that ends rubbed", due.draws(full, 0, 1, 1, 600, 0, 1, 2, 600, 0), 15);
        due.is("one part too many, not the last", full.rub(600, 0, 0), InkPad.FULL);
        due.is("nothing rubbed with 16 strokes", full.rub(700, 700, 1), InkPad.NONE);
    }
}
