/** Promises 1 to 3: a new object, put, clearPoints. */
public final class BufferTest {
    public static void main(String[] args) {
        Due due = new Due();
        newObject(due);
        put(due);
        clearPoints(due);
        due.end();
    }

    private static void newObject(Due due) {
        InkPad pad = new InkPad();
        for (int what = 0; what <= 9; what++) {
            due.is("new: count(" + what + ")", pad.count(what), 0);
        }
        due.is("new: count(10)", pad.count(10), 20);
        due.is("new: clearText", pad.clearText(), 0);
        due.is("new: clearPoints", pad.clearPoints(), 0);
        due.is("new: undo", pad.undo(), InkPad.NONE);
        due.is("new: redo", pad.redo(), InkPad.NONE);
        due.is("new: read(0)", pad.read(0), InkPad.NONE);
        due.is("new: line(0, 0)", pad.line(0, 0), InkPad.UNKNOWN);
        due.is("new: word(0, 0)", pad.word(0, 0), InkPad.UNKNOWN);
        due.is("new: stroke(0, 0)", pad.stroke(0, 0), InkPad.UNKNOWN);
        due.is("new: point(0, 0, 0)", pad.point(0, 0, 0), InkPad.UNKNOWN);
        due.is("new: nearest(0, 0)", pad.nearest(0, 0), InkPad.NONE);
        due.is("new: cell(0, 0)", pad.cell(0, 0), 0);
        due.is("new: color(0, 3)", pad.color(0, 3), 0);
        InkPad drawn = new InkPad();
        due.draws(drawn, 1, 5, 5);
        due.is("pads are apart: count(0)", new InkPad().count(0), 0);
    }

    private static void put(Due due) {
        InkPad pad = new InkPad();
        due.is("put(-1, 0)", pad.put(-1, 0), InkPad.BAD_VALUE);
        due.is("put(0, -1)", pad.put(0, -1), InkPad.BAD_VALUE);
        due.is("put(1001, 0)", pad.put(1001, 0), InkPad.BAD_VALUE);
        due.is("put(0, 1001)", pad.put(0, 1001), InkPad.BAD_VALUE);
        due.is("put(least, 0)", pad.put(Integer.MIN_VALUE, 0), InkPad.BAD_VALUE);
        due.is("put(0, greatest)", pad.put(0, Integer.MAX_VALUE), InkPad.BAD_VALUE);
        due.is("wrong puts add nothing", pad.count(7), 0);
        due.is("put(0, 0)", pad.put(0, 0), 1);
        due.is("put(0, 0) again", pad.put(0, 0), 1);
        due.is("put(1000, 1000)", pad.put(1000, 1000), 2);
        due.is("put(1000, 0)", pad.put(1000, 0), 3);
        due.is("put(0, 0) later", pad.put(0, 0), 4);
        for (int i = 5; i <= 24; i++) {
            due.is("put number " + i, pad.put(i, i), i);
        }
        due.is("put into a full buffer", pad.put(1, 2), InkPad.FULL);
        due.is("put of the last one into a full buffer", pad.put(24, 24), InkPad.FULL);
        due.is("wrong put into a full buffer", pad.put(1001, 2), InkPad.BAD_VALUE);
        due.is("full buffer: count(7)", pad.count(7), 24);
        due.is("draw(0)", pad.draw(0), 0);
        due.is("stroke(0, 1)", pad.stroke(0, 1), 24);
        due.is("last x", pad.point(0, 23, 0), 24);
        due.is("put after draw", pad.put(24, 24), 1);
    }

    private static void clearPoints(Due due) {
        InkPad pad = new InkPad();
        due.puts(pad, 1, 1, 2, 2, 3, 3);
        due.is("clearPoints()", pad.clearPoints(), 3);
        due.is("then count(7)", pad.count(7), 0);
        due.is("then clearPoints()", pad.clearPoints(), 0);
        due.is("then put of the last one", pad.put(3, 3), 1);
        due.is("no act: count(8)", pad.count(8), 0);
    }
}
