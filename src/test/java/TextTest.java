/** Promises 4 to 6: type, clearText, readPoints. */
public final class TextTest {
    public static void main(String[] args) {
        Due due = new Due();
        typing(due);
        reading(due);
        faults(due);
        manyPoints(due);
        buffer(due);
        due.end();
    }

    private static void typing(Due due) {
        InkPad pad = new InkPad();
        for (int i = 1; i <= 100; i++) {
            due.is("type number " + i, pad.type((char) (i * 655)), i);
        }
        due.is("type number 101", pad.type('1'), InkPad.FULL);
        due.is("clearText()", pad.clearText(), 100);
        due.is("clearText() again", pad.clearText(), 0);
        due.is("type(0)", pad.type((char) 0), 1);
        due.is("type(65535)", pad.type((char) 65535), 2);
        due.is("a text of other characters", pad.readPoints(), -100);
        due.is("the text stays", pad.clearText(), 2);
    }

    private static void reading(Due due) {
        InkPad pad = new InkPad();
        due.is("one point", due.reads(pad, "7,8"), 1);
        due.is("draw(0)", pad.draw(0), 0);
        due.points("one point", pad, 0, 7, 8);
        due.is("the text stays", pad.readPoints(), 1);
        due.is("it is there once", pad.clearText(), 3);
        due.is("three points", due.reads(pad, "0,1000 1000,0 0012,0345"), 3);
        due.is("draw(1)", pad.draw(1), 1);
        due.points("three points", pad, 1, 0, 1000, 1000, 0, 12, 345);
        due.is("the greatest at the end", due.reads(pad, "1000,1000"), 1);
        due.is("repeats", due.reads(pad, "5,5 05,005 6,5 6,5 5,5"), 3);
        due.is("draw(2)", pad.draw(2), 2);
        due.points("repeats", pad, 2, 5, 5, 6, 5, 5, 5);
    }

    private static void faults(Due due) {
        fault(due, "", 0);
        fault(due, " ", 0);
        fault(due, ",", 0);
        fault(due, "-1,2", 0);
        fault(due, "1", 1);
        fault(due, "1,", 2);
        fault(due, "1,,2", 2);
        fault(due, "1 2", 1);
        fault(due, "1, 2", 2);
        fault(due, "1,2,", 3);
        fault(due, "1,2 ", 4);
        fault(due, "1,2  3,4", 4);
        fault(due, "1,2 3", 5);
        fault(due, "1,2 3,", 6);
        fault(due, "1,2x", 3);
        fault(due, "1,2 3,4\n", 7);
        fault(due, " 1,2", 0);
        fault(due, "1/2", 1);
        fault(due, "1:2", 1);
        fault(due, "1," + (char) 0x0661, 2);
        fault(due, "00001,2", 4);
        fault(due, "1,00002", 6);
        // Numbers that are too great are found where they end, but a 5th digit comes first.
        fault(due, "1001", 0);
        fault(due, "1001,2", 0);
        fault(due, "1001x", 0);
        fault(due, "1001 ", 0);
        fault(due, "10010", 4);
        fault(due, "12345,1", 4);
        fault(due, "1,1001", 2);
        fault(due, "1,9999 ", 2);
        fault(due, "1,9999,", 2);
        fault(due, "1,99999", 6);
        fault(due, "1,2 1001", 4);
        fault(due, "1,2 3,1001 4", 6);
        fault(due, "1,1000 1000,1001", 12);
        fault(due, "2000,x", 0);
        fault(due, "1000,x", 5);
    }

    private static void fault(Due due, String text, int at) {
        InkPad pad = new InkPad();
        due.puts(pad, 9, 8, 7, 6);
        due.is("readPoints() of '" + text + "'", due.reads(pad, text), -100 - at);
        due.is("'" + text + "' stays", pad.clearText(), text.length());
        due.is("the buffer stays at '" + text + "'", pad.draw(0), 0);
        due.points("'" + text + "'", pad, 0, 9, 8, 7, 6);
    }

    private static void manyPoints(Due due) {
        StringBuilder text = new StringBuilder("0,0");
        for (int i = 1; i < 24; i++) {
            text.append(' ').append(i % 10).append(",1");
        }
        due.is("24 points", due.reads(new InkPad(), text.toString()), 24);
        due.is("a blank behind them", due.reads(new InkPad(), text + " "), -100 - 95);
        due.is("a 25th point", due.reads(new InkPad(), text + " 9,9"), -100 - 95);
        due.is("another sign behind them", due.reads(new InkPad(), text + "x"), -100 - 95);
        due.is("a blank behind a number too great", due.reads(new InkPad(), text + "001 "), -100 - 94);
        due.is("a fifth digit at the 24th point", due.reads(new InkPad(), text + "0000"), -100 - 98);
        // Points that are left out count for the 24 all the same.
        StringBuilder same = new StringBuilder("1,1");
        for (int i = 1; i < 24; i++) {
            same.append(" 1,1");
        }
        due.is("24 equal points", due.reads(new InkPad(), same.toString()), 1);
        due.is("25 equal points", due.reads(new InkPad(), same + " 1,1"), -100 - 95);
    }

    private static void buffer(Due due) {
        InkPad pad = new InkPad();
        due.puts(pad, 3, 4);
        due.is("the points replace those of the buffer", due.reads(pad, "3,4 5,6"), 2);
        due.is("draw(0)", pad.draw(0), 0);
        due.points("replaced", pad, 0, 3, 4, 5, 6);
        due.is("reading is no act", pad.count(8), 1);
        due.is("a fault is no act", due.reads(pad, "x"), -100);
        due.is("then count(8)", pad.count(8), 1);
    }
}
