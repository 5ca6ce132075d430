/** Promises 15 and 16: undo, redo, and what each act records. */
public final class HistoryTest {
    public static void main(String[] args) {
        Due due = new Due();
        backAndOn(due);
        sixStates(due);
        actsDropTheFuture(due);
        errorsKeepTheFuture(due);
        othersAreNoActs(due);
        everyAct(due);
        due.end();
    }

    private static void backAndOn(Due due) {
        InkPad pad = new InkPad();
        due.is("undo() of nothing", pad.undo(), InkPad.NONE);
        due.is("redo() of nothing", pad.redo(), InkPad.NONE);
        due.draws(pad, 1, 1, 1);
        due.draws(pad, 2, 2, 2);
        due.is("count(8)", pad.count(8), 2);
        due.is("redo() after acts", pad.redo(), InkPad.NONE);
        due.is("undo()", pad.undo(), 1);
        due.is("count(9)", pad.count(9), 1);
        due.is("undo()", pad.undo(), 0);
        due.is("undo() too often", pad.undo(), InkPad.NONE);
        due.is("count(9)", pad.count(9), 2);
        due.is("count(0)", pad.count(0), 0);
        due.is("redo()", pad.redo(), 1);
        due.is("count(8)", pad.count(8), 1);
        due.points("the first again", pad, 0, 1, 1);
        due.is("redo()", pad.redo(), 0);
        due.points("the second again", pad, 1, 2, 2);
        due.is("its color", pad.stroke(1, 0), 2);
        due.is("redo() too often", pad.redo(), InkPad.NONE);
    }

    private static void sixStates(Due due) {
        InkPad pad = new InkPad();
        for (int i = 1; i <= 9; i++) {
            due.draws(pad, 0, i, i);
            due.is("count(8) after " + i, pad.count(8), Math.min(i, 6));
        }
        for (int round = 0; round < 3; round++) {
            for (int i = 5; i >= 0; i--) {
                due.is("undo() number " + (6 - i), pad.undo(), i);
                due.is("count(0)", pad.count(0), 3 + i);
            }
            due.is("undo() too often", pad.undo(), InkPad.NONE);
            due.is("count(9)", pad.count(9), 6);
            for (int i = 5; i >= 0; i--) {
                due.is("redo() number " + (6 - i), pad.redo(), i);
                due.is("count(0)", pad.count(0), 9 - i);
                due.is("count(8)", pad.count(8), 6 - i);
            }
            due.is("redo() too often", pad.redo(), InkPad.NONE);
            due.points("the last", pad, 8, 9, 9);
        }
        for (int i = 0; i < 20; i++) {
            due.is("paint number " + i, pad.paint(0, (i + 1) % 4), i % 4);
            due.is("undo() of it", pad.undo(), 5);
            due.is("redo() of it", pad.redo(), 0);
        }
    }

    private static void actsDropTheFuture(Due due) {
        InkPad pad = new InkPad();
        due.draws(pad, 0, 1, 1);
        due.draws(pad, 0, 2, 2);
        due.draws(pad, 0, 3, 3);
        pad.undo();
        pad.undo();
        due.is("count(9)", pad.count(9), 2);
        due.is("paint(0, 1)", pad.paint(0, 1), 0);
        due.is("count(9) after an act", pad.count(9), 0);
        due.is("count(8) after an act", pad.count(8), 2);
        due.is("redo()", pad.redo(), InkPad.NONE);
        due.is("count(0)", pad.count(0), 1);
        due.is("undo()", pad.undo(), 1);
        due.is("color", pad.stroke(0, 0), 0);
    }

    private static void errorsKeepTheFuture(Due due) {
        InkPad pad = new InkPad();
        due.draws(pad, 0, 1, 1, 2, 2);
        due.draws(pad, 0, 3, 3);
        pad.undo();
        pad.draw(0);
        pad.draw(4);
        pad.rub(900, 900, 1);
        pad.rub(0, 0, 501);
        pad.smooth(0, 1);
        pad.smooth(0, 0);
        pad.thin(0, 1);
        pad.thin(7, 1);
        pad.join(0, 0);
        pad.join(0, 1);
        pad.shift(0, 0, 0);
        pad.shift(0, -2, 0);
        pad.paint(0, 0);
        pad.paint(0, 9);
        pad.remove(1);
        due.is("count(9)", pad.count(9), 1);
        due.is("count(8)", pad.count(8), 1);
        due.is("redo()", pad.redo(), 0);
        due.points("what was undone", pad, 1, 3, 3);
    }

    private static void othersAreNoActs(Due due) {
        InkPad pad = new InkPad();
        due.draws(pad, 0, 1, 1);
        pad.undo();
        due.puts(pad, 7, 7);
        pad.type('1');
        pad.clearPoints();
        due.reads(pad, "4,5 6,7");
        pad.clearText();
        pad.setGap(33);
        due.is("count(9)", pad.count(9), 1);
        due.is("redo()", pad.redo(), 0);
        due.is("the buffer stays", pad.count(7), 2);
        due.is("the gap stays", pad.count(10), 33);
        due.is("undo()", pad.undo(), 0);
        due.is("the buffer stays", pad.count(7), 2);
        due.is("the gap stays", pad.count(10), 33);
    }

    private static void everyAct(Due due) {
        for (int act = 0; act < 8; act++) {
            InkPad pad = new InkPad();
            due.draws(pad, 1, 10, 10, 20, 90, 30, 10, 31, 10);
            due.draws(pad, 2, 50, 50);
            due.puts(pad, 5, 5);
            String name = "act " + act;
            due.is(name + " is no error", act(pad, act) >= 0 ? 1 : 0, 1);
            due.is(name + ": count(8)", pad.count(8), 3);
            String after = all(pad);
            due.is(name + ": undo()", pad.undo(), 2);
            due.is(name + ": count(9)", pad.count(9), 1);
            due.is(name + ": strokes before", pad.count(0), 2);
            due.points(name, pad, 0, 10, 10, 20, 90, 30, 10, 31, 10);
            due.points(name, pad, 1, 50, 50);
            due.is(name + ": color of 0", pad.stroke(0, 0), 1);
            due.is(name + ": color of 1", pad.stroke(1, 0), 2);
            due.is(name + ": redo()", pad.redo(), 0);
            due.is(name + ": done again as it was", after.equals(all(pad)) ? 1 : 0, 1);
            due.is(name + ": count(8) then", pad.count(8), 3);
        }
    }

    private static int act(InkPad pad, int act) {
        switch (act) {
            case 0: return pad.draw(3);
            case 1: return pad.rub(20, 90, 3);
            case 2: return pad.smooth(0, 1);
            case 3: return pad.thin(0, 90);
            case 4: return pad.join(1, 0);
            case 5: return pad.shift(0, 1, 1);
            case 6: return pad.paint(1, 0);
            default: return pad.remove(0);
        }
    }

    private static String all(InkPad pad) {
        StringBuilder text = new StringBuilder();
        for (int stroke = 0; stroke < pad.count(0); stroke++) {
            text.append(pad.stroke(stroke, 0)).append(':');
            for (int i = 0; i < pad.stroke(stroke, 1); i++) {
                text.append(pad.point(stroke, i, 0)).append(',');
                text.append(pad.point(stroke, i, 1)).append(' ');
            }
        }
        return text.toString();
    }
}
