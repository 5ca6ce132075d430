/** The edges of the history, a test for each sentence (promises 15 and 16). */
public final class HistoryEdgesTest {
    public static void main(String[] args) {
        Due due = new Due();
        emptyHistory(due);
        oneState(due);
        sixStates(due);
        oldestDropped(due);
        manyActs(due);
        whatCouldBeDoneAgain(due);
        noErrorAndNotNone(due);
        undoTellsWhatIsLeft(due);
        redoTellsHowOften(due);
        redoRecords(due);
        sixAfterRedo(due);
        backAndForth(due);
        allStrokesWithTheirColors(due);
        whatIsNoState(due);
        fullPads(due);
        statesStayAsTheyWere(due);
        due.end();
    }

    /** Draws a stroke of one point at (number, number). */
    private static void acts(Due due, InkPad pad, int from, int to) {
        for (int number = from; number <= to; number++) {
            due.draws(pad, number % 4, number, number);
        }
    }

    private static void states(Due due, String when, InkPad pad, int past, int future, int strokes) {
        due.is(when + ": count(8)", pad.count(8), past);
        due.is(when + ": count(9)", pad.count(9), future);
        due.is(when + ": count(0)", pad.count(0), strokes);
    }

    private static void emptyHistory(Due due) {
        due.about("NONE if it is empty.");
        InkPad pad = new InkPad();
        due.is("undo() of a new pad", pad.undo(), InkPad.NONE);
        due.is("redo() of a new pad", pad.redo(), InkPad.NONE);
        states(due, "a new pad", pad, 0, 0, 0);
        acts(due, pad, 1, 1);
        due.is("undo()", pad.undo(), 0);
        due.is("undo() again", pad.undo(), InkPad.NONE);
        states(due, "undone", pad, 0, 1, 0);
    }

    private static void oneState(Due due) {
        due.about("An act that returns no error and not NONE records the state before it,");
        InkPad pad = new InkPad();
        acts(due, pad, 1, 1);
        states(due, "after one act", pad, 1, 0, 1);
        due.is("undo()", pad.undo(), 0);
        states(due, "the state before it", pad, 0, 1, 0);
    }

    private static void sixStates(Due due) {
        due.about("in a history of at most 6 states;");
        InkPad pad = new InkPad();
        for (int number = 1; number <= 6; number++) {
            acts(due, pad, number, number);
            states(due, "act " + number, pad, number, 0, number);
        }
        for (int left = 5; left >= 0; left--) {
            due.is("undo()", pad.undo(), left);
            states(due, "undone", pad, left, 6 - left, left);
        }
        due.is("a seventh undo()", pad.undo(), InkPad.NONE);
    }

    private static void oldestDropped(Due due) {
        due.about("when one more is recorded, the oldest one is dropped;");
        InkPad pad = new InkPad();
        acts(due, pad, 1, 7);
        states(due, "seven acts", pad, 6, 0, 7);
        for (int left = 5; left >= 0; left--) {
            due.is("undo()", pad.undo(), left);
            due.is("strokes", pad.count(0), left + 1);
        }
        due.is("a seventh undo()", pad.undo(), InkPad.NONE);
        due.same("the oldest that is left", Look.strokes(pad), "0 of 1: 1,1; ");
        acts(due, pad, 20, 20);
        states(due, "an act then", pad, 1, 0, 2);
    }

    private static void manyActs(Due due) {
        due.about("when one more is recorded, the oldest one is dropped;");
        for (int acts = 8; acts <= 16; acts++) {
            InkPad pad = new InkPad();
            acts(due, pad, 1, acts);
            states(due, acts + " acts", pad, 6, 0, acts);
            for (int left = 5; left >= 0; left--) {
                due.is("undo() of " + acts, pad.undo(), left);
                int strokes = acts - 6 + left;
                due.is("strokes", pad.count(0), strokes);
                due.is("the last one's left", pad.stroke(strokes - 1, 2), strokes);
            }
            due.is("undo() too often", pad.undo(), InkPad.NONE);
        }
    }

    private static void whatCouldBeDoneAgain(Due due) {
        due.about("and what could be done again is dropped.");
        for (int undone = 1; undone <= 6; undone++) {
            InkPad pad = new InkPad();
            acts(due, pad, 1, 6);
            for (int i = 0; i < undone; i++) {
                pad.undo();
            }
            states(due, undone + " undone", pad, 6 - undone, undone, 6 - undone);
            acts(due, pad, 50, 50);
            states(due, "an act then", pad, 7 - undone, 0, 7 - undone);
            due.is("redo()", pad.redo(), InkPad.NONE);
            due.is("the last one's left", pad.stroke(6 - undone, 2), 50);
            due.is("undo()", pad.undo(), 6 - undone);
            due.is("redo()", pad.redo(), 0);
            due.is("the last one's left", pad.stroke(6 - undone, 2), 50);
        }
    }

    private static void noErrorAndNotNone(Due due) {
        due.about("An act that returns no error and not NONE records the state before it,");
        InkPad pad = new InkPad();
        due.draws(pad, 1, 1, 1, 2, 2);
        due.draws(pad, 1, 3, 3);
        due.is("undo()", pad.undo(), 1);
        due.is("draw(0)", pad.draw(0), InkPad.NOT_POSSIBLE);
        due.is("draw(4)", pad.draw(4), InkPad.BAD_VALUE);
        due.is("rub(900, 900, 9)", pad.rub(900, 900, 9), InkPad.NONE);
        due.is("rub(900, 900, 501)", pad.rub(900, 900, 501), InkPad.BAD_VALUE);
        due.is("smooth(0, 1)", pad.smooth(0, 1), InkPad.NONE);
        due.is("smooth(1, 1)", pad.smooth(1, 1), InkPad.UNKNOWN);
        due.is("thin(0, 1)", pad.thin(0, 1), InkPad.NONE);
        due.is("thin(0, 0)", pad.thin(0, 0), InkPad.BAD_VALUE);
        due.is("join(0, 0)", pad.join(0, 0), InkPad.BAD_VALUE);
        due.is("join(0, 1)", pad.join(0, 1), InkPad.UNKNOWN);
        due.is("shift(0, 0, 0)", pad.shift(0, 0, 0), InkPad.NONE);
        due.is("shift(0, -2, 0)", pad.shift(0, -2, 0), InkPad.NOT_POSSIBLE);
        due.is("paint(0, 1)", pad.paint(0, 1), InkPad.NONE);
        due.is("paint(0, 4)", pad.paint(0, 4), InkPad.BAD_VALUE);
        due.is("remove(1)", pad.remove(1), InkPad.UNKNOWN);
        states(due, "nothing is recorded or dropped", pad, 1, 1, 1);
        due.is("redo()", pad.redo(), 0);
        due.same("redone", Look.strokes(pad), "0 of 1: 1,1 2,2; 1 of 1: 3,3; ");
    }

    private static void undoTellsWhatIsLeft(Due due) {
        due.about("Returns the number of states that are left in the history; NONE if it is empty.");
        InkPad pad = new InkPad();
        acts(due, pad, 1, 3);
        due.is("undo()", pad.undo(), 2);
        due.is("undo()", pad.undo(), 1);
        due.is("undo()", pad.undo(), 0);
        due.is("undo()", pad.undo(), InkPad.NONE);
        due.is("undo()", pad.undo(), InkPad.NONE);
        states(due, "undone", pad, 0, 3, 0);
    }

    private static void redoTellsHowOften(Due due) {
        due.about("Returns how often something can be done again then; NONE if nothing can be done again.");
        InkPad pad = new InkPad();
        acts(due, pad, 1, 3);
        due.is("redo() when nothing was undone", pad.redo(), InkPad.NONE);
        pad.undo();
        pad.undo();
        pad.undo();
        due.is("redo()", pad.redo(), 2);
        due.is("redo()", pad.redo(), 1);
        due.is("redo()", pad.redo(), 0);
        due.is("redo()", pad.redo(), InkPad.NONE);
        due.is("redo()", pad.redo(), InkPad.NONE);
        states(due, "redone", pad, 3, 0, 3);
    }

    private static void redoRecords(Due due) {
        due.about("redo() does it again, and records the present state in the history "
                + "(which keeps 6 at most).");
        InkPad pad = new InkPad();
        acts(due, pad, 1, 2);
        pad.undo();
        pad.undo();
        for (int redone = 1; redone <= 2; redone++) {
            due.is("redo()", pad.redo(), 2 - redone);
            states(due, "redone", pad, redone, 2 - redone, redone);
        }
        due.is("undo() of a redo()", pad.undo(), 1);
        due.is("undo() of a redo()", pad.undo(), 0);
        states(due, "undone", pad, 0, 2, 0);
    }

    private static void sixAfterRedo(Due due) {
        due.about("(which keeps 6 at most)");
        InkPad pad = new InkPad();
        acts(due, pad, 1, 9);
        for (int i = 0; i < 6; i++) {
            pad.undo();
        }
        states(due, "six undone", pad, 0, 6, 3);
        for (int redone = 1; redone <= 6; redone++) {
            due.is("redo()", pad.redo(), 6 - redone);
            states(due, "redone", pad, redone, 6 - redone, 3 + redone);
        }
        due.is("redo() too often", pad.redo(), InkPad.NONE);
        states(due, "all redone", pad, 6, 0, 9);
    }

    private static void backAndForth(Due due) {
        due.about("undo() makes the latest recorded state the present one, and the present one can be "
                + "done again;");
        InkPad pad = new InkPad();
        due.draws(pad, 0, 5, 5);
        // Shifts tell the states apart; three acts, then one or two of them undone, round and round.
        int made = 0;
        for (int round = 0; round < 12; round++) {
            for (int i = 0; i < 3; i++) {
                due.is("shift(0, 1, 0)", pad.shift(0, 1, 0), 1);
                made++;
            }
            int undone = 1 + round % 2;
            for (int i = 0; i < undone; i++) {
                due.is("undo()", pad.undo() >= 0 ? 1 : 0, 1);
                made--;
                due.is("x then", pad.point(0, 0, 0), 5 + made);
            }
            due.is("count(9)", pad.count(9), undone);
            due.is("redo()", pad.redo(), undone - 1);
            made++;
            due.is("x then", pad.point(0, 0, 0), 5 + made);
        }
        for (int left = pad.count(8) - 1; left >= 0; left--) {
            due.is("undo()", pad.undo(), left);
            made--;
            due.is("x then", pad.point(0, 0, 0), 5 + made);
        }
    }

    private static void allStrokesWithTheirColors(Due due) {
        due.about("A state consists of all strokes with their colors.");
        InkPad pad = new InkPad();
        due.draws(pad, 1, 10, 10, 20, 90, 30, 10);
        due.draws(pad, 2, 50, 50, 40, 40);
        due.draws(pad, 3, 20, 91);
        String[] looks = new String[7];
        looks[0] = Look.strokes(pad);
        due.is("paint(1, 0)", pad.paint(1, 0), 2);
        looks[1] = Look.strokes(pad);
        due.is("rub(20, 90, 5)", pad.rub(20, 90, 5), 2);
        looks[2] = Look.strokes(pad);
        due.is("join(2, 0)", pad.join(2, 0), 1);
        looks[3] = Look.strokes(pad);
        due.is("smooth(1, 2)", pad.smooth(1, 2), 3);
        looks[4] = Look.strokes(pad);
        due.is("thin(1, 500)", pad.thin(1, 500), 2);
        looks[5] = Look.strokes(pad);
        due.is("remove(0)", pad.remove(0), 1);
        looks[6] = Look.strokes(pad);
        for (int left = 5; left >= 0; left--) {
            due.is("undo()", pad.undo(), left);
            due.same("undone", Look.strokes(pad), looks[left]);
        }
        for (int left = 5; left >= 0; left--) {
            due.is("redo()", pad.redo(), left);
            due.same("redone", Look.strokes(pad), looks[6 - left]);
        }
    }

    private static void whatIsNoState(Due due) {
        due.about("A state consists of all strokes with their colors.");
        InkPad pad = new InkPad();
        acts(due, pad, 1, 2);
        due.puts(pad, 7, 8, 9, 9);
        due.types(pad, "5,6");
        pad.setGap(33);
        due.is("undo()", pad.undo(), 1);
        due.is("the buffer", pad.count(7), 2);
        due.is("the gap", pad.count(10), 33);
        due.is("the text", pad.type(' '), 4);
        pad.setGap(44);
        due.is("put(1, 1)", pad.put(1, 1), 3);
        due.is("redo()", pad.redo(), 0);
        due.is("the buffer", pad.count(7), 3);
        due.is("the gap", pad.count(10), 44);
        due.is("the text", pad.clearText(), 4);
        // The points of a drawing that is undone do not come back to the buffer.
        due.is("draw(1)", pad.draw(1), 2);
        due.is("undo()", pad.undo(), 2);
        due.is("the buffer", pad.count(7), 0);
    }

    private static void fullPads(Due due) {
        due.about("A state consists of all strokes with their colors.");
        InkPad pad = new InkPad();
        due.column(pad, 15, 2, 100, 100);
        due.row(pad, 24, 500, 5);
        due.is("draw(3)", pad.draw(3), 15);
        due.is("remove(0)", pad.remove(0), 15);
        due.is("undo()", pad.undo(), 5);
        due.is("count(0)", pad.count(0), 16);
        due.is("the first", pad.stroke(0, 4), 100);
        due.is("the last one's points", pad.stroke(15, 1), 24);
        due.is("its last x", pad.point(15, 23, 0), 523);
        due.is("its last y", pad.point(15, 23, 1), 5);
        due.is("its color", pad.stroke(15, 0), 3);
        due.is("rub of all", pad.rub(300, 100, 500), 39);
        due.is("count(0)", pad.count(0), 0);
        due.is("undo()", pad.undo(), 5);
        due.is("count(1)", pad.count(1), 39);
        due.is("redo()", pad.redo(), 0);
        due.is("count(1)", pad.count(1), 0);
    }

    private static void statesStayAsTheyWere(Due due) {
        due.about("records the state before it,");
        InkPad pad = new InkPad();
        due.draws(pad, 1, 10, 10, 20, 20);
        due.is("shift(0, 5, 5)", pad.shift(0, 5, 5), 2);
        due.is("undo()", pad.undo(), 1);
        // What is made of a state that came back does not change the recorded one.
        due.is("paint(0, 3)", pad.paint(0, 3), 1);
        due.is("shift(0, 1, 1)", pad.shift(0, 1, 1), 2);
        due.is("undo()", pad.undo(), 2);
        due.same("the painted", Look.strokes(pad), "0 of 3: 10,10 20,20; ");
        due.is("undo()", pad.undo(), 1);
        due.same("the drawn", Look.strokes(pad), "0 of 1: 10,10 20,20; ");
        due.is("redo()", pad.redo(), 1);
        due.is("redo()", pad.redo(), 0);
        due.same("the last", Look.strokes(pad), "0 of 3: 11,11 21,21; ");
    }
}
