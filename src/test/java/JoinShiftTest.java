/** Promises 11 to 14: join, shift, paint, remove. */
public final class JoinShiftTest {
    public static void main(String[] args) {
        Due due = new Due();
        join(due);
        joinRoom(due);
        joinErrors(due);
        shift(due);
        shiftByOne(due);
        shiftErrors(due);
        paint(due);
        remove(due);
        due.end();
    }

    private static void join(Due due) {
        InkPad pad = new InkPad();
        due.draws(pad, 0, 0, 0, 1, 0);
        due.draws(pad, 1, 5, 5, 6, 5);
        due.draws(pad, 2, 6, 5, 7, 5, 6, 5);
        due.draws(pad, 3, 6, 5);
        due.is("join(1, 2)", pad.join(1, 2), 1);
        due.points("the same point is left out", pad, 1, 5, 5, 6, 5, 7, 5, 6, 5);
        due.is("it keeps its color", pad.stroke(1, 0), 1);
        due.is("the other is gone", pad.count(0), 3);
        due.is("those behind it come nearer", pad.stroke(2, 0), 3);
        due.is("an act", pad.count(8), 5);
        due.is("join(1, 2), nothing but the same", pad.join(1, 2), 1);
        due.is("it has its points", pad.stroke(1, 1), 4);
        due.is("the other is gone", pad.count(0), 2);
        due.is("an act all the same", pad.count(8), 6);
        due.is("join(1, 0)", pad.join(1, 0), 0);
        due.points("joined to the end", pad, 0, 5, 5, 6, 5, 7, 5, 6, 5, 0, 0, 1, 0);
        due.is("color then", pad.stroke(0, 0), 1);
        InkPad other = new InkPad();
        due.draws(other, 0, 1, 0);
        due.draws(other, 1, 1, 9);
        due.draws(other, 2, 2, 9);
        due.is("join(0, 2)", other.join(0, 2), 0);
        due.points("one same coordinate is not the same", other, 0, 1, 0, 2, 9);
        due.is("join(1, 0)", other.join(1, 0), 0);
        due.points("the first's point stays", other, 0, 1, 9, 1, 0, 2, 9);
    }

    private static void joinRoom(Due due) {
        InkPad pad = new InkPad();
        for (int i = 0; i < 12; i++) {
            due.puts(pad, i, 0);
        }
        pad.draw(0);
        for (int i = 0; i < 13; i++) {
            due.puts(pad, i, 7);
        }
        pad.draw(1);
        due.is("25 points", pad.join(0, 1), InkPad.FULL);
        due.is("25 points, the other way", pad.join(1, 0), InkPad.FULL);
        due.is("FULL changes nothing", pad.count(0), 2);
        due.is("FULL is no act", pad.count(8), 2);
        due.is("shift onto the last point", pad.shift(1, 11, -7), 13);
        due.is("24 points with one left out", pad.join(0, 1), 0);
        due.is("they are 24", pad.stroke(0, 1), 24);
        due.draws(pad, 2, 23, 0);
        due.is("nothing to be added", pad.join(0, 1), 0);
        due.draws(pad, 2, 24, 0);
        due.is("one too many", pad.join(0, 1), InkPad.FULL);
        InkPad even = new InkPad();
        for (int i = 0; i < 12; i++) {
            due.puts(even, i, 0);
        }
        even.draw(0);
        for (int i = 0; i < 12; i++) {
            due.puts(even, i, 7);
        }
        even.draw(1);
        due.is("24 points", even.join(1, 0), 0);
        due.is("the last of 24", even.point(0, 23, 0), 11);
    }

    private static void joinErrors(Due due) {
        InkPad pad = new InkPad();
        due.is("join(0, 0) of nothing", pad.join(0, 0), InkPad.UNKNOWN);
        due.draws(pad, 0, 1, 1);
        due.draws(pad, 0, 2, 2);
        due.is("join(0, 2)", pad.join(0, 2), InkPad.UNKNOWN);
        due.is("join(2, 0)", pad.join(2, 0), InkPad.UNKNOWN);
        due.is("join(-1, 0)", pad.join(-1, 0), InkPad.UNKNOWN);
        due.is("join(0, -1)", pad.join(0, -1), InkPad.UNKNOWN);
        due.is("join(2, 2)", pad.join(2, 2), InkPad.UNKNOWN);
        due.is("join(-1, -1)", pad.join(-1, -1), InkPad.UNKNOWN);
        due.is("join(1, 1)", pad.join(1, 1), InkPad.BAD_VALUE);
        due.is("no acts", pad.count(8), 2);
    }

    private static void shift(Due due) {
        InkPad pad = new InkPad();
        due.draws(pad, 1, 0, 500, 100, 400, 50, 1000);
        due.draws(pad, 2, 1, 1);
        due.is("shift(0, 900, -400)", pad.shift(0, 900, -400), 3);
        due.points("moved to the edges", pad, 0, 900, 100, 1000, 0, 950, 600);
        due.points("the other stays", pad, 1, 1, 1);
        due.is("the color stays", pad.stroke(0, 0), 1);
        due.is("an act", pad.count(8), 3);
        due.is("shift(0, 0, 400)", pad.shift(0, 0, 400), 3);
        due.is("shift(0, -900, 0)", pad.shift(0, -900, 0), 3);
        due.points("back", pad, 0, 0, 500, 100, 400, 50, 1000);
        due.is("shift(1, -1, 999)", pad.shift(1, -1, 999), 1);
        due.is("shift(1, 1000, -1000)", pad.shift(1, 1000, -1000), 1);
        due.points("across", pad, 1, 1000, 0);
        due.is("shift(1, -1000, 1000)", pad.shift(1, -1000, 1000), 1);
        due.points("and back", pad, 1, 0, 1000);
    }

    private static void shiftByOne(Due due) {
        InkPad pad = new InkPad();
        due.draws(pad, 0, 5, 5);
        due.is("shift(0, 1, 0)", pad.shift(0, 1, 0), 1);
        due.points("to the right", pad, 0, 6, 5);
        due.is("shift(0, 0, 1)", pad.shift(0, 0, 1), 1);
        due.points("down", pad, 0, 6, 6);
        due.is("shift(0, -1, 0)", pad.shift(0, -1, 0), 1);
        due.is("shift(0, 0, -1)", pad.shift(0, 0, -1), 1);
        due.points("back again", pad, 0, 5, 5);
        due.is("acts", pad.count(8), 5);
    }

    private static void shiftErrors(Due due) {
        InkPad pad = new InkPad();
        due.is("shift(0, 2000, 0) of nothing", pad.shift(0, 2000, 0), InkPad.UNKNOWN);
        due.draws(pad, 0, 10, 20, 990, 970);
        due.is("shift(1, 0, 0)", pad.shift(1, 0, 0), InkPad.UNKNOWN);
        due.is("shift(-1, 0, 0)", pad.shift(-1, 0, 0), InkPad.UNKNOWN);
        due.is("shift(0, 1001, 0)", pad.shift(0, 1001, 0), InkPad.BAD_VALUE);
        due.is("shift(0, -1001, 0)", pad.shift(0, -1001, 0), InkPad.BAD_VALUE);
        due.is("shift(0, 0, 1001)", pad.shift(0, 0, 1001), InkPad.BAD_VALUE);
        due.is("shift(0, 0, -1001)", pad.shift(0, 0, -1001), InkPad.BAD_VALUE);
        due.is("shift(0, greatest, least)",
                pad.shift(0, Integer.MAX_VALUE, Integer.MIN_VALUE), InkPad.BAD_VALUE);
        due.is("too far left", pad.shift(0, -11, 0), InkPad.NOT_POSSIBLE);
        due.is("too far right", pad.shift(0, 11, 0), InkPad.NOT_POSSIBLE);
        due.is("too far up", pad.shift(0, 0, -21), InkPad.NOT_POSSIBLE);
        due.is("too far down", pad.shift(0, 0, 31), InkPad.NOT_POSSIBLE);
        due.is("shift(0, 1000, 1000)", pad.shift(0, 1000, 1000), InkPad.NOT_POSSIBLE);
        due.is("shift(0, 0, 0)", pad.shift(0, 0, 0), InkPad.NONE);
        due.is("no acts", pad.count(8), 1);
        due.points("nothing moved", pad, 0, 10, 20, 990, 970);
        due.is("to the left and down", pad.shift(0, -10, 30), 2);
        due.is("to the right and up", pad.shift(0, 20, -50), 2);
    }

    private static void paint(Due due) {
        InkPad pad = new InkPad();
        due.is("paint(0, 4) of nothing", pad.paint(0, 4), InkPad.UNKNOWN);
        due.draws(pad, 1, 3, 3, 4, 4);
        due.draws(pad, 2, 5, 5);
        due.is("paint(2, 0)", pad.paint(2, 0), InkPad.UNKNOWN);
        due.is("paint(-1, 0)", pad.paint(-1, 0), InkPad.UNKNOWN);
        due.is("paint(0, -1)", pad.paint(0, -1), InkPad.BAD_VALUE);
        due.is("paint(0, 4)", pad.paint(0, 4), InkPad.BAD_VALUE);
        due.is("paint(0, 1)", pad.paint(0, 1), InkPad.NONE);
        due.is("no acts", pad.count(8), 2);
        due.is("paint(0, 3)", pad.paint(0, 3), 1);
        due.is("its color", pad.stroke(0, 0), 3);
        due.is("the other's color", pad.stroke(1, 0), 2);
        due.points("its points stay", pad, 0, 3, 3, 4, 4);
        due.is("an act", pad.count(8), 3);
        due.is("paint(0, 0)", pad.paint(0, 0), 3);
        due.is("undo", pad.undo(), 3);
        due.is("its color then", pad.stroke(0, 0), 3);
    }

    private static void remove(Due due) {
        InkPad pad = new InkPad();
        due.is("remove(0) of nothing", pad.remove(0), InkPad.UNKNOWN);
        due.draws(pad, 0, 1, 1);
        due.draws(pad, 1, 2, 2, 3, 3);
        due.draws(pad, 2, 4, 4);
        due.is("remove(3)", pad.remove(3), InkPad.UNKNOWN);
        due.is("remove(-1)", pad.remove(-1), InkPad.UNKNOWN);
        due.is("no acts", pad.count(8), 3);
        due.is("remove(1)", pad.remove(1), 2);
        due.points("the one before", pad, 0, 1, 1);
        due.points("the one behind", pad, 1, 4, 4);
        due.is("its color", pad.stroke(1, 0), 2);
        due.is("an act", pad.count(8), 4);
        due.is("remove(1), the last", pad.remove(1), 1);
        due.is("remove(0)", pad.remove(0), 0);
        due.is("remove(0) of none", pad.remove(0), InkPad.UNKNOWN);
        due.is("undo", pad.undo(), 5);
        due.is("undo", pad.undo(), 4);
        due.is("undo", pad.undo(), 3);
        due.points("all are back", pad, 1, 2, 2, 3, 3);
        due.points("all are back", pad, 2, 4, 4);
        InkPad full = new InkPad();
        for (int i = 0; i < 16; i++) {
            due.draws(full, 0, i, i);
        }
        due.is("the last of 16", full.remove(15), 15);
        due.is("room again", due.draws(full, 0, 99, 99), 15);
        due.is("the first of 16", full.remove(0), 15);
        due.points("the last comes nearer", full, 14, 99, 99);
    }
}
