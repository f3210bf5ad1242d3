/** 'Terms': how the ELEMENTS of a ROW are found, and what is IMPLICIT. */
public final class BoundsOfFindingTest {
    private static final int LAST = Check.LAST_POINT;

    public static void main(String[] args) {
        Check check = new Check();
        tillNothingIsLeft(check);
        longestRow(check);
        endOfTheRow(check);
        noSuchLine(check);
        classAboveZero(check);
        aboveAllPassedOver(check);
        withItBehind(check);
        sIsThat(check);
        anyOther(check);
        overManyPoints(check);
        perhapsNone(check);
        implicit(check);
        implicitGoesOnBehind(check);
        check.end();
    }

    /** Points 1 .. 9 with the line [point.0.0] each, point k of class k, but 1 and 9 of class 0. */
    private static WeightOrder nine() {
        WeightOrder x = new WeightOrder();
        for (int point = 1; point <= 9; point++) {
            Check.tell(x, point, point);
        }
        for (int point = 2; point <= 8; point++) {
            x.order(point, point);
        }
        return x;
    }

    /** The first weights of the row of these points, which are digits. */
    private static String of(WeightOrder x, String points) {
        x.clear(0);
        for (char point : points.toCharArray()) {
            x.add(0, point - '0');
        }
        StringBuilder text = new StringBuilder();
        int n = x.count(0, false);
        for (int i = 0; i < n; i++) {
            text.append(i == 0 ? "" : " ").append(x.weight(0, false, i, 0));
        }
        return text.toString();
    }

    private static void tillNothingIsLeft(Check check) {
        check.sentence("ELEMENTS of a ROW, till nothing is left");
        WeightOrder x = nine();
        check.due("", "an empty row", of(x, ""));
        check.due("1", "one point", of(x, "1"));
        check.due("1 1 9 1", "the last point, too", of(x, "1191"));
        WeightOrder full = new WeightOrder();
        for (int k = 0; k < 200; k++) {
            full.add(0, k);
        }
        for (int k = 0; k < 100; k++) {
            int i = 2 * (199 - k);
            check.answers(32768 + 199 - k, "point " + (199 - k), () -> full.weight(0, false, i + 1, 0));
        }
        check.refuses("nothing behind", () -> full.weight(0, false, 400, 0));
        Check.tell(full, 5, 197, 198, 199);
        check.answers(395, "a line of the last three", () -> full.count(0, false));
        check.answers(5, "which is the last", () -> full.weight(0, false, 394, 0));
    }

    private static void longestRow(Check check) {
        check.sentence("S, the longest row at its beginning for which there is a LINE");
        WeightOrder x = nine();
        Check.tell(x, 19, 1, 9);
        check.due("19 1", "two before one", of(x, "191"));
        Check.tell(x, 191, 1, 9, 1);
        check.due("191", "three before two", of(x, "191"));
        check.due("191 9 19 9", "then what is left", of(x, "1919199"));
        Check.tell(x, 911, 9, 1, 1);
        check.due("9 1", "the first two of three", of(x, "91"));
        check.due("911", "three without the two", of(x, "911"));
        check.due("9 191", "not the line of a later point", of(x, "9191"));
        Check.tell(x, 111, 1, 1, 1);
        check.due("111 1", "no line is longer than three", of(x, "1111"));
        WeightOrder y = nine();
        Check.tell(y, 91, 9, 1);
        Check.tell(y, 919, 9, 1, 9);
        check.due("1 1 9 9", "the order of the points counts", of(y, "1199"));
    }

    // What stood in a row before, or in another row, must not be read behind a row's end.
    private static void endOfTheRow(Check check) {
        check.sentence("S, the longest row at its beginning: no longer than the ROW");
        WeightOrder x = nine();
        Check.tell(x, 19, 1, 9);
        Check.tell(x, 199, 1, 9, 9);
        Check.tell(x, 14, 1, 4);
        check.due("199", "three", of(x, "199"));
        check.due("19", "two are left of what were three", of(x, "19"));
        check.due("1", "one is left of what were three", of(x, "1"));
        check.due("14 2", "four over two", of(x, "124"));
        check.due("9 9 4", "the next row is shorter", of(x, "994"));
        check.due("1 2", "nothing behind two", of(x, "12"));
        check.due("9 9 1", "one at the end", of(x, "991"));
        check.due("9 19", "two at the end", of(x, "919"));
        check.due("", "nothing", of(x, ""));
    }

    private static void noSuchLine(Check check) {
        check.sentence("then, if there is one");
        WeightOrder x = new WeightOrder();
        x.order(2, 2);
        x.order(3, 3);
        Check.tell(x, 13, 1, 3);
        Check.tell(x, 2, 2);
        Check.tell(x, 3, 3);
        check.due("64448 32769 2 3", "no line for 1: nothing goes", of(x, "123"));
        Check.tell(x, 1, 1);
        check.due("13 2", "with a line for 1", of(x, "123"));
    }

    private static void classAboveZero(Check check) {
        check.sentence("from the first POINT behind S on, as long as they are of class above 0");
        WeightOrder x = nine();
        Check.tell(x, 14, 1, 4);
        check.due("14 2", "class above 0 between", of(x, "124"));
        check.due("1 9 4", "class 0 between", of(x, "194"));
        check.due("1 2 9 4", "class 0 behind another", of(x, "1294"));
        check.due("14 2 9", "class 0 behind", of(x, "1249"));
        check.due("1 2", "nothing behind", of(x, "12"));
        x.order(2, 1);
        check.due("14 2", "class 1 between", of(x, "124"));
        x.order(2, 0);
        check.due("1 2 4", "class 0 between", of(x, "124"));
        x.order(2, 1);
        x.order(4, 0);
        check.due("1 2 4", "class 0 of the one with a line", of(x, "124"));
        check.due("14 2", "which goes only where nothing is between", of(x, "142"));
    }

    private static void aboveAllPassedOver(Check check) {
        check.sentence("one whose class is above those of all that were passed over till then");
        WeightOrder x = nine();
        Check.tell(x, 14, 1, 4);
        check.due("14 3", "4 over 3", of(x, "134"));
        check.due("1 5 4", "4 not over 5", of(x, "154"));
        check.due("1 5 2 4", "nor over 5 and 2", of(x, "1524"));
        check.due("1 2 5 4", "nor over 2 and 5", of(x, "1254"));
        check.due("14 3 2", "over 3 and 2", of(x, "1324"));
        x.order(3, 4);
        check.due("1 3 4", "4 not over another of class 4", of(x, "134"));
        x.order(3, 253);
        x.order(4, 254);
        check.due("14 3", "254 over 253", of(x, "134"));
        x.order(3, 254);
        check.due("1 3 4", "254 not over 254", of(x, "134"));
        x.order(3, 1);
        x.order(4, 1);
        check.due("1 3 4", "1 not over 1", of(x, "134"));
        x.order(4, 2);
        check.due("14 3", "2 over 1", of(x, "134"));
        goneOnesDoNotCount(check);
    }

    private static void goneOnesDoNotCount(Check check) {
        WeightOrder x = nine();
        Check.tell(x, 15, 1, 5);
        Check.tell(x, 153, 1, 5, 3);
        Check.tell(x, 155, 1, 5, 5);
        check.due("153 2", "3 over 2, 5 went", of(x, "1253"));
        check.due("155 2", "5 behind 5, which went", of(x, "1255"));
        check.due("15 2 4 3", "3 not over 4, passed over before 5 went", of(x, "12453"));
        check.due("15 2 6 5", "nor 5 over 6, passed over since", of(x, "12565"));
        check.due("153 2 3", "a second 3 stays", of(x, "12533"));
    }

    private static void withItBehind(Check check) {
        check.sentence("and for which S with it behind has a LINE, goes from there");
        WeightOrder x = nine();
        Check.tell(x, 41, 4, 1);
        Check.tell(x, 134, 1, 3, 4);
        check.due("1 2 4", "not with it before, nor with more", of(x, "124"));
        check.due("1 2 3 4", "two do not go at once", of(x, "1234"));
        Check.tell(x, 14, 1, 4);
        check.due("14 2", "with it behind", of(x, "124"));
        check.due("14 2 3 5", "it goes from there and the others stay in order", of(x, "12345"));
        check.due("14 2 4", "it goes once", of(x, "1244"));
    }

    private static void sIsThat(Check check) {
        check.sentence("and S is that");
        WeightOrder x = nine();
        Check.tell(x, 13, 1, 3);
        Check.tell(x, 15, 1, 5);
        check.due("13 2 5", "5 does not go with 1 when S is 1 3", of(x, "1235"));
        Check.tell(x, 135, 1, 3, 5);
        check.due("135 2", "5 goes with 1 3", of(x, "1235"));
        check.due("135 2 4", "over another one, too", of(x, "12345"));
        check.due("135 2 7", "three points, no more", of(x, "12357"));
        check.due("15 2 4 3", "3 is not above 4, so S is still 1 when 5 comes", of(x, "12435"));
        WeightOrder y = nine();
        Check.tell(y, 19, 1, 9);
        Check.tell(y, 193, 1, 9, 3);
        Check.tell(y, 13, 1, 3);
        Check.tell(y, 93, 9, 3);
        check.due("193 2", "S of two points at first", of(y, "1923"));
        Check.tell(y, 199, 1, 9, 9);
        check.due("199 2 3", "S of three points takes none", of(y, "19923"));
        fourPointsAreNoLine(check);
    }

    // A key that had no room for a fourth point could take the last three of four for a LINE.
    private static void fourPointsAreNoLine(Check check) {
        for (int first : new int[] {0, 1, 9}) {
            WeightOrder x = nine();
            Check.tell(x, 90, first);
            Check.tell(x, 91, first, 3);
            Check.tell(x, 92, first, 3, 5);
            Check.tell(x, 93, 3, 5, 7);
            Check.tell(x, 94, 5, 7);
            check.due("92 7", "three at the beginning, first " + first, of(x, first + "357"));
            check.due("92 2 7", "three over another, first " + first, of(x, first + "2357"));
        }
    }

    private static void anyOther(Check check) {
        check.sentence("any other is passed over");
        WeightOrder x = nine();
        Check.tell(x, 14, 1, 4);
        Check.tell(x, 16, 1, 6);
        check.due("16 5 4", "5 and 4 are passed over, 6 is above both", of(x, "1546"));
        check.due("1 7 4 6", "7 is above both", of(x, "1746"));
        Check.tell(x, 25, 2, 5);
        check.due("14 25 3", "what was passed over is S in turn", of(x, "12345"));
        Check.tell(x, 23, 2, 3);
        check.due("14 23", "what was passed over stands by what is behind", of(x, "1243"));
        check.due("14 23 4", "a second one is passed over", of(x, "12434"));
        WeightOrder y = nine();
        Check.tell(y, 15, 1, 5);
        Check.tell(y, 24, 2, 4);
        check.due("15 24 3", "those passed over keep their classes", of(y, "12354"));
    }

    private static void overManyPoints(Check check) {
        check.sentence("from the first POINT behind S on: till the ROW's end");
        WeightOrder x = nine();
        Check.tell(x, 14, 1, 4);
        Check.tell(x, 144, 1, 4, 4);
        x.add(0, 1);
        for (int k = 0; k < 197; k++) {
            x.add(0, 3);
        }
        check.answers(199, "add", () -> x.add(0, 4));
        check.answers(200, "add", () -> x.add(0, 4));
        check.answers(198, "both go over 197 points", () -> x.count(0, false));
        check.answers(144, "the line of three", () -> x.weight(0, false, 0, 0));
        check.answers(3, "then those passed over", () -> x.weight(0, false, 1, 0));
        check.answers(3, "to the last", () -> x.weight(0, false, 197, 0));
        x.order(4, 3);
        check.answers(200, "none goes", () -> x.count(0, false));
        check.answers(4, "the last", () -> x.weight(0, false, 199, 0));
    }

    private static void perhapsNone(Check check) {
        check.sentence("The ELEMENTS of S (perhaps none)");
        WeightOrder x = nine();
        x.line(1, 9, 0, 0);
        check.due("", "none", of(x, "9"));
        check.due("1 1", "none between", of(x, "191"));
        x.line(2, 1, 4, 0);
        check.due("2", "none for what went over another", of(x, "124"));
        x.line(1, 2, 0, 0);
        check.due("", "none at all", of(x, "124"));
        Check.tellAll(x, "1 0 0, 2 0 0, 3 0 0, 4 0 0, 5 0 0, 6 0 0, 7 0 0, 8 0 0", 9);
        check.due("1 2 3 4 5 6 7 8", "eight", of(x, "9"));
        check.due("1 2 3 4 5 6 7 8 1 2 3 4 5 6 7 8", "eight twice", of(x, "99"));
    }

    private static void implicit(Check check) {
        check.sentence("IMPLICIT: [.b + p / 8000.0020.0002][.(p mod 8000) + 8000.0000.0000], b FBC0");
        int[][] due = {
            {0, 0xFBC0, 0x8000}, {1, 0xFBC0, 0x8001}, {0x7FFE, 0xFBC0, 0xFFFE}, {0x7FFF, 0xFBC0, 0xFFFF},
            {0x8000, 0xFBC1, 0x8000}, {0x8001, 0xFBC1, 0x8001}, {0xFFFF, 0xFBC1, 0xFFFF}, {0x10000, 0xFBC2, 0x8000},
            {0x17FFF, 0xFBC2, 0xFFFF}, {0x107FFF, 0xFBE0, 0xFFFF}, {0x108000, 0xFBE1, 0x8000},
            {0x10FFFE, 0xFBE1, 0xFFFE}, {0x10FFFF, 0xFBE1, 0xFFFF},
            // Where hexadecimal 8000 and decimal 8000 part.
            {7999, 0xFBC0, 0x8000 + 7999}, {8000, 0xFBC0, 0x8000 + 8000}, {16000, 0xFBC0, 0x8000 + 16000},
        };
        WeightOrder x = new WeightOrder();
        for (int[] d : due) {
            Check.fill(x, 0, d[0]);
            check.elements("[" + d[1] + ".32.2.0][" + d[2] + ".0.0.0]", "point " + d[0], x, 0, false);
        }
    }

    private static void implicitGoesOnBehind(Check check) {
        check.sentence("if there was no such LINE: of the first POINT p, IMPLICIT");
        WeightOrder x = new WeightOrder();
        Check.tell(x, 234, 2, 3, 4);
        check.due("64448 32769 234", "the next S begins with the second point", of(x, "1234"));
        Check.tell(x, 12, 1, 2);
        Check.tell(x, 123, 1, 2, 3);
        check.due("64448 32769", "a line of two begins with it", of(x, "1"));
        check.due("12", "the line of two", of(x, "12"));
        check.due("64448 32769 64448 32771 64448 32770", "the same points otherwise", of(x, "132"));
        check.due("64448 32769 12", "of the first point alone", of(x, "112"));
        x.order(1, 254);
        check.due("64448 32769", "whatever its class", of(x, "1"));
        Check.fill(x, 1, LAST, LAST);
        check.answers(4, "each point by itself", () -> x.count(1, true));
    }
}
