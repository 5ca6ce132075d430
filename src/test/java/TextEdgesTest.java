/** The edges of the text, a test for each sentence (promises 4 to 6). */
public final class TextEdgesTest {
    public static void main(String[] args) {
        Due due = new Due();
        hundredCharacters(due);
        roomForACharacter(due);
        anyCharacter(due);
        clearText(due);
        oneBlank(due);
        numberOfPoints(due);
        digits(due);
        notAllowed(due);
        fifthDigit(due);
        blankBehindTheLast(due);
        tooEarly(due);
        tooEarlyAtTheEnd(due);
        tooGreat(due);
        tooGreatAtTheEnd(due);
        tooGreatBeforeASign(due);
        tooGreatWithAFifthDigit(due);
        theTextStays(due);
        theBuffer(due);
        leftOut(due);
        faultLeavesTheBuffer(due);
        due.end();
    }

    private static void fault(Due due, String text, int at) {
        InkPad pad = new InkPad();
        due.is("readPoints() of '" + text + "'", due.reads(pad, text), -100 - at);
        due.is("points then", pad.count(7), 0);
    }

    private static void reads(Due due, String text, int... coordinates) {
        InkPad pad = new InkPad();
        due.is("readPoints() of '" + text + "'", due.reads(pad, text), coordinates.length / 2);
        due.is("draw(0)", pad.draw(0), 0);
        due.points("'" + text + "'", pad, 0, coordinates);
    }

    /** A text of that many points, of three characters each. */
    private static String points(int number) {
        StringBuilder text = new StringBuilder();
        for (int i = 0; i < number; i++) {
            text.append(i == 0 ? "" : " ").append(i % 10).append(",3");
        }
        return text.toString();
    }

    private static void hundredCharacters(Due due) {
        due.about("There is a text of at most 100 characters, empty at first.");
        InkPad pad = new InkPad();
        due.is("readPoints() of the empty text", pad.readPoints(), -100);
        due.is("clearText() of the empty text", pad.clearText(), 0);
        // 16 points of 6 characters each, and one of 4 behind them.
        for (int i = 0; i < 100; i++) {
            char sign = i < 96 ? (i / 6 % 2 == 0 ? "10,10 " : "20,20 ").charAt(i % 6)
                    : "1,30".charAt(i - 96);
            due.is("type number " + (i + 1), pad.type(sign), i + 1);
        }
        due.is("type number 101", pad.type('1'), InkPad.FULL);
        due.is("readPoints() of 100 characters", pad.readPoints(), 17);
        due.is("draw(0)", pad.draw(0), 0);
        due.is("the last y, without a 101st character", pad.point(0, 16, 1), 30);
        due.is("clearText()", pad.clearText(), 100);
        due.is("room again", pad.type('1'), 1);
    }

    private static void roomForACharacter(Due due) {
        due.about("Returns the length of the text then; FULL if it has 100 characters.");
        InkPad pad = new InkPad();
        for (int length = 1; length <= 100; length++) {
            due.is("type number " + length, pad.type('4'), length);
        }
        due.is("the same character again", pad.type('4'), InkPad.FULL);
        due.is("another one", pad.type((char) 0), InkPad.FULL);
        due.is("clearText()", pad.clearText(), 100);
        due.is("type", pad.type('4'), 1);
    }

    private static void anyCharacter(Due due) {
        due.about("any character");
        char[] signs = {0, 1, ' ', ',', '0', 127, 128, 255, 256, 0x7fff, 0x8000, 0xffff};
        InkPad pad = new InkPad();
        for (int i = 0; i < signs.length; i++) {
            due.is("type((char) " + (int) signs[i] + ")", pad.type(signs[i]), i + 1);
        }
        for (char sign : signs) {
            if (sign != '0' && sign != ',') {
                fault(due, sign + ",2", 0);
                fault(due, "1" + sign + "2", 1);
            }
        }
        // Signs whose lowest eight bits are those of a digit, a comma, a blank; and other digits.
        fault(due, (char) ('7' + 256) + ",1", 0);
        fault(due, "1" + (char) (',' + 256) + "1", 1);
        fault(due, "1,1" + (char) (' ' + 256) + "1,1", 3);
        fault(due, "1,1" + (char) 160 + "1,1", 3);
        fault(due, "1," + (char) 0xff11, 2);
    }

    private static void clearText(Due due) {
        due.about("Returns the length that it had.");
        InkPad pad = new InkPad();
        due.is("clearText() of 0", pad.clearText(), 0);
        due.is("type", pad.type('1'), 1);
        due.is("clearText() of 1", pad.clearText(), 1);
        due.is("clearText() again", pad.clearText(), 0);
        due.is("readPoints() then", pad.readPoints(), -100);
        due.is("a shorter text later", due.reads(pad, "12,34 5"), -107);
        due.is("nothing of a longer text is left", due.reads(pad, "6,7"), 1);
    }

    private static void oneBlank(Due due) {
        due.about("Points are written as x \",\" y with one blank between each two (1 to 24 points), "
                + "the numbers with 1 to 4 digits.");
        reads(due, "1,2 3,4", 1, 2, 3, 4);
        fault(due, "1,23,4", 4);
        fault(due, "1,2  3,4", 4);
        fault(due, " 1,2", 0);
        fault(due, "1,2 3,4 ", 8);
        fault(due, "1 ,2", 1);
        fault(due, "1, 2", 2);
        fault(due, "1,2\t3,4", 3);
        fault(due, "1 2", 1);
        fault(due, "1,,2", 2);
    }

    private static void numberOfPoints(Due due) {
        due.about("(1 to 24 points)");
        fault(due, "", 0);
        reads(due, "5,3", 5, 3);
        InkPad pad = new InkPad();
        due.is("23 points", due.reads(pad, points(23)), 23);
        due.is("24 points", due.reads(pad, points(24)), 24);
        due.is("25 points", due.reads(pad, points(25)), -195);
        due.is("those of the 24 are there", pad.count(7), 24);
    }

    private static void digits(Due due) {
        due.about("the numbers with 1 to 4 digits.");
        reads(due, "1,2", 1, 2);
        reads(due, "0001,0002", 1, 2);
        reads(due, "0000,0", 0, 0);
        reads(due, "12,345 1000,0999", 12, 345, 1000, 999);
        fault(due, ",2", 0);
        fault(due, "1, ", 2);
        fault(due, "+1,2", 0);
        fault(due, "-0,2", 0);
        fault(due, "1.5,2", 1);
    }

    private static void notAllowed(Due due) {
        due.about("The fault of the text is the index, from 0, of the first character that is not "
                + "allowed at its place");
        fault(due, "x", 0);
        fault(due, "1x", 1);
        fault(due, "1,x", 2);
        fault(due, "1,2x", 3);
        fault(due, "1,2 x", 4);
        fault(due, "1,2,x", 3);
        fault(due, "1,2 3 4", 5);
        fault(due, "1/2", 1);
        fault(due, "1:2", 1);
        fault(due, "/,2", 0);
        fault(due, ":,2", 0);
        // The first of several faults counts.
        fault(due, "1;2;3", 1);
        fault(due, "1,2 3;99999", 5);
        fault(due, points(24) + ",1", 95);
    }

    private static void fifthDigit(Due due) {
        due.about("(a 5th digit, and a blank behind the 24th point, too)");
        fault(due, "00001,2", 4);
        fault(due, "1,00002", 6);
        fault(due, "1,2 00003,4", 8);
        fault(due, "000000", 4);
        fault(due, "1,000000", 6);
        fault(due, "0100000", 4);
        reads(due, "1000,0001 1,1", 1000, 1, 1, 1);
    }

    private static void blankBehindTheLast(Due due) {
        due.about("(a 5th digit, and a blank behind the 24th point, too)");
        fault(due, points(24) + " ", 95);
        fault(due, points(24) + " 7", 95);
        fault(due, points(24) + "0000", 98);
        InkPad pad = new InkPad();
        due.is("a blank behind the 23rd point", due.reads(pad, points(23) + " "), -192);
        due.is("a digit behind it", due.reads(pad, points(23) + " 7"), -193);
        StringBuilder same = new StringBuilder("4,3");
        for (int i = 2; i <= 24; i++) {
            same.append(" 4,3");
        }
        due.is("24 points that are the same", due.reads(pad, same.toString()), 1);
        due.is("a blank behind them", due.reads(pad, same + " "), -195);
    }

    private static void tooEarly(Due due) {
        due.about("or its length if it ends too early.");
        fault(due, "", 0);
        fault(due, "1", 1);
        fault(due, "1000", 4);
        fault(due, "1,", 2);
        fault(due, "1,2 ", 4);
        fault(due, "1,2 3", 5);
        fault(due, "1,2 3,", 6);
        fault(due, points(23) + " 1", 93);
    }

    private static void tooEarlyAtTheEnd(Due due) {
        due.about("or its length if it ends too early.");
        StringBuilder text = new StringBuilder();
        for (int i = 0; i < 16; i++) {
            text.append("10,10 ");
        }
        fault(due, text + "1000", 100);
        fault(due, text + "100,", 100);
        fault(due, text + "1,2 ", 100);
        fault(due, text + "1,2x", 99);
    }

    private static void tooGreat(Due due) {
        due.about("A number that is greater than 1000 is a fault at its first digit,");
        reads(due, "1000,1000", 1000, 1000);
        fault(due, "1001,1", 0);
        fault(due, "1,1001", 2);
        fault(due, "9999,1", 0);
        fault(due, "1,2 3333,4", 4);
        fault(due, "1,2 3,4444 5,6", 6);
        fault(due, "1001,1001", 0);
    }

    private static void tooGreatAtTheEnd(Due due) {
        due.about("found where the number ends (at the end of the text, or before the first character "
                + "that is not a digit, but not before a 5th digit).");
        fault(due, "1001", 0);
        fault(due, "9999", 0);
        fault(due, "1,1001", 2);
        fault(due, "1,2 1001", 4);
        fault(due, points(23) + " 1,1001", 94);
    }

    private static void tooGreatBeforeASign(Due due) {
        due.about("found where the number ends (at the end of the text, or before the first character "
                + "that is not a digit, but not before a 5th digit).");
        fault(due, "1001x", 0);
        fault(due, "1001 ", 0);
        fault(due, "1,1001x", 2);
        fault(due, "1,1001,", 2);
        fault(due, "1001,x", 0);
        fault(due, "x1001", 0);
        fault(due, "1,x1001", 2);
        fault(due, points(23) + " 1,1001 ", 94);
        fault(due, points(23) + " 1001 ", 92);
    }

    private static void tooGreatWithAFifthDigit(Due due) {
        due.about("found where the number ends (at the end of the text, or before the first character "
                + "that is not a digit, but not before a 5th digit).");
        fault(due, "10010", 4);
        fault(due, "99999,1", 4);
        fault(due, "1,99999", 6);
        fault(due, "1,2 10011x", 8);
        fault(due, points(23) + " 1,99999", 98);
    }

    private static void theTextStays(Due due) {
        due.about("Makes the points of the text, which stays, those of the buffer");
        InkPad pad = new InkPad();
        due.is("readPoints()", due.reads(pad, "1,2 3,4"), 2);
        due.is("readPoints() again", pad.readPoints(), 2);
        due.is("type", pad.type('5'), 8);
        due.is("readPoints() of the longer text", pad.readPoints(), 2);
        due.is("draw(0)", pad.draw(0), 0);
        due.points("drawn", pad, 0, 1, 2, 3, 45);
        due.is("type", pad.type('x'), 9);
        due.is("a fault", pad.readPoints(), -108);
        due.is("a text with a fault stays, too", pad.clearText(), 9);
    }

    private static void theBuffer(Due due) {
        due.about("Makes the points of the text, which stays, those of the buffer");
        InkPad pad = new InkPad();
        due.row(pad, 24, 100, 100);
        due.is("in place of a full buffer", due.reads(pad, "123,100 7,8"), 2);
        due.is("draw(0)", pad.draw(0), 0);
        due.points("nothing of the former buffer", pad, 0, 123, 100, 7, 8);
        // The last point of the former buffer is not one before the first of the text.
        due.puts(pad, 9, 9);
        due.is("the same as the former last one", due.reads(pad, "9,9 8,8"), 2);
        due.is("put behind it", pad.put(8, 8), 2);
        due.is("put behind it", pad.put(9, 9), 3);
        due.is("24 points", due.reads(pad, points(24)), 24);
        due.is("put then", pad.put(500, 500), InkPad.FULL);
    }

    private static void leftOut(Due due) {
        due.about("(a point that is the same as the one before it is left out)");
        reads(due, "1,2 1,2", 1, 2);
        reads(due, "1,2 01,002 0001,2", 1, 2);
        reads(due, "1,2 1,3 1,2", 1, 2, 1, 3, 1, 2);
        reads(due, "1,2 2,2 2,2", 1, 2, 2, 2);
        reads(due, "0,0", 0, 0);
        reads(due, "1,2 2,1", 1, 2, 2, 1);
    }

    private static void faultLeavesTheBuffer(Due due) {
        due.about("-100 minus the fault of the text if it has one.");
        String[] texts = {"", "x", "5,6 7", "5,6 7,8 ", "5,6 7,1001", points(25)};
        int[] faults = {0, 0, 5, 8, 6, 95};
        for (int i = 0; i < texts.length; i++) {
            InkPad pad = new InkPad();
            due.puts(pad, 30, 40, 50, 60);
            due.is("readPoints() of '" + texts[i] + "'", due.reads(pad, texts[i]), -100 - faults[i]);
            due.is("points in the buffer", pad.count(7), 2);
            due.is("the last point is still the last", pad.put(50, 60), 2);
            due.is("draw(0)", pad.draw(0), 0);
            due.points("drawn", pad, 0, 30, 40, 50, 60);
        }
    }
}
