/** 'Terms': COMPARED. */
public final class BoundsOfComparedTest {
    public static void main(String[] args) {
        Check check = new Check();
        strengths(check);
        notZero(check);
        inOrder(check);
        beginning(check);
        ifTheseAreTheSame(check);
        fourths(check);
        longestRows(check);
        check.end();
    }

    /** The answers for strength 1 .. 4 without and then with SHIFTED. */
    private static String of(String first, String second) {
        WeightOrder x = new WeightOrder();
        Check.tellAll(x, first, 1);
        Check.tellAll(x, second, 2);
        x.add(1, 1);
        x.add(2, 2);
        StringBuilder text = new StringBuilder();
        for (int k = 0; k < 8; k++) {
            text.append(k == 0 ? "" : k == 4 ? " | " : " ").append(x.compare(1, 2, k % 4 + 1, k >= 4));
        }
        return text.toString();
    }

    private static void strengths(Check check) {
        check.sentence("COMPARED at strength 1 .. 4");
        WeightOrder x = new WeightOrder();
        for (int strength : Check.outside(1, 4)) {
            check.refuses("strength " + strength, () -> x.compare(0, 1, strength, false));
            check.refuses("strength " + strength + " shifted", () -> x.compare(0, 0, strength, true));
        }
        check.due("-1 -1 -1 -1 | -1 -1 -1 -1", "1 is enough for p", of("1 1 1", "2 1 1"));
        check.due("0 -1 -1 -1 | 0 -1 -1 -1", "2 is needed for s", of("1 1 1", "1 2 1"));
        check.due("0 0 -1 -1 | 0 0 -1 -1", "3 is needed for t", of("1 1 1", "1 1 2"));
        check.due("-1 -1 -1 -1 | 0 0 0 -1", "4 is needed for the fourth", of("1 1 1 *", "2 1 1 *"));
    }

    private static void notZero(Check check) {
        check.sentence("by all p that are not 0, .. by all s that are not 0, then t, then the fourths");
        check.due("0 0 0 0 | 0 0 0 0", "all 0 in front", of("0 0 0, 1 1 1", "1 1 1"));
        check.due("0 0 0 0 | 0 0 0 0", "all 0 behind", of("1 1 1", "1 1 1, 0 0 0"));
        check.due("0 0 0 0 | 0 0 0 0", "all 0 between", of("1 1 1, 0 0 0, 1 1 1", "1 1 1, 1 1 1"));
        check.due("0 0 0 0 | 0 0 0 0", "all 0 and nothing", of("0 0 0", ""));
        check.due("0 0 0 0 | 0 0 0 0", "all 0 in other numbers", of("0 0 0, 0 0 0, 0 0 0", "0 0 0"));
        check.due("0 0 0 0 | 0 0 0 0", "p 0 before and behind", of("0 1 1, 1 0 0", "1 0 0, 0 1 1"));
        check.due("0 0 0 0 | 0 0 0 0", "s 0 before and behind", of("1 0 1, 1 1 1", "1 1 1, 1 0 1"));
        check.due("0 0 0 0 | 0 0 0 0", "t 0 before and behind", of("1 1 0, 1 1 1", "1 1 1, 1 1 0"));
        check.due("0 1 1 1 | 0 0 0 0", "fourth 0 behind", of("1 1 1 *, 0 1 1", "1 1 1 *"));
        check.due("0 0 0 0 | 0 0 0 0", "fourth 0 here and there", of("0 0 0, 1 1 1 *", "1 1 1 *, 0 0 0"));
    }

    private static void inOrder(Check check) {
        check.sentence("in order, as rows of numbers");
        check.due("-1 -1 -1 -1 | -1 -1 -1 -1", "p 1 and 65535", of("1 0 0", "65535 0 0"));
        check.due("-1 -1 -1 -1 | -1 -1 -1 -1", "p 32767 and 32768", of("32767 0 0", "32768 0 0"));
        check.due("0 -1 -1 -1 | 0 -1 -1 -1", "s 32767 and 32768", of("1 32767 0", "1 32768 0"));
        check.due("0 0 -1 -1 | 0 0 -1 -1", "t 32767 and 32768", of("1 1 32767", "1 1 32768"));
        check.due("0 0 1 1 | 0 0 1 1", "t 65535 and 1", of("1 1 65535", "1 1 1"));
        check.due("-1 -1 -1 -1 | 0 0 0 -1", "fourths 32767 and 32768", of("32767 1 1 *", "32768 1 1 *"));
        check.due("-1 -1 -1 -1 | -1 -1 -1 -1", "the first difference", of("1 1 1, 9 9 9", "2 1 1, 1 1 1"));
        check.due("1 1 1 1 | 1 1 1 1", "the last of many", of("1 0 0, 1 0 0, 1 0 0, 3 0 0", "1 0 0, 1 0 0, 1 0 0, 2 0 0"));
        check.due("1 1 1 1 | 1 1 1 1", "not by their sum or length", of("2 0 0", "1 0 0, 65535 0 0, 65535 0 0"));
    }

    private static void beginning(Check check) {
        check.sentence("a beginning before the longer one");
        check.due("0 0 0 0 | 0 0 0 0", "nothing and nothing", of("", ""));
        check.due("-1 -1 -1 -1 | -1 -1 -1 -1", "nothing before p 1", of("", "1 0 0"));
        check.due("0 -1 -1 -1 | 0 -1 -1 -1", "nothing before s 1", of("", "0 1 0"));
        check.due("0 0 -1 -1 | 0 0 -1 -1", "nothing before t 1", of("", "0 0 1"));
        check.due("-1 -1 -1 -1 | 0 0 0 -1", "nothing before a fourth", of("", "1 0 0 *"));
        check.due("1 1 1 1 | 1 1 1 1", "p 1 behind nothing", of("1 0 0", ""));
        check.due("0 0 1 1 | 0 0 1 1", "t 1 behind nothing", of("0 0 1", ""));
        check.due("-1 -1 -1 -1 | -1 -1 -1 -1", "one more p", of("1 1 1", "1 1 1, 1 1 1"));
        check.due("0 -1 -1 -1 | 0 -1 -1 -1", "one more s", of("1 1 1", "1 1 1, 0 1 0"));
        check.due("0 0 -1 -1 | 0 0 -1 -1", "one more t", of("1 1 1", "1 1 1, 0 0 1"));
        check.due("-1 -1 -1 -1 | 0 0 0 -1", "one more fourth", of("1 1 1 *", "1 1 1 *, 1 1 1 *"));
        check.due("1 1 1 1 | 1 1 1 1", "the longer one behind", of("1 1 1, 1 1 1", "1 1 1"));
    }

    private static void ifTheseAreTheSame(Check check) {
        check.sentence("if these are the same by all s, then t");
        check.due("-1 -1 -1 -1 | -1 -1 -1 -1", "a later p before a first s", of("1 9 9, 1 9 9", "1 1 1, 2 1 1"));
        check.due("-1 -1 -1 -1 | -1 -1 -1 -1", "one more p before a first s", of("1 9 9", "1 1 1, 1 1 1"));
        check.due("0 -1 -1 -1 | 0 -1 -1 -1", "a later s before a first t", of("1 1 9, 1 1 9", "1 1 1, 1 2 1"));
        check.due("0 -1 -1 -1 | 0 -1 -1 -1", "one more s before a first t", of("1 1 9", "1 1 1, 0 1 0"));
        check.due("-1 -1 -1 -1 | 0 0 1 1", "a t before the fourths", of("9 1 9, 1 1 1 *", "9 1 1, 2 1 1 *"));
        check.due("0 0 0 0 | 0 0 0 0", "all the same", of("1 2 3, 0 4 5, 6 0 7", "1 2 3, 0 4 5, 6 0 7"));
    }

    private static void fourths(Check check) {
        check.sentence("then (SHIFTED only) the fourths");
        check.due("0 0 0 0 | 0 0 0 -1", "one or three of FFFF", of("1 1 1", "1 0 0, 0 1 0, 0 0 1"));
        check.due("-1 -1 -1 -1 | 0 0 0 -1", "a lower fourth between", of("9 1 1, 1 1 1 *, 9 1 1", "9 1 1, 9 1 1"));
        check.due("1 1 1 1 | 0 0 0 1", "a lower fourth at the end and in front", of("9 1 1, 1 1 1 *", "1 1 1 *, 9 1 1"));
        check.due("0 0 0 0 | 1 1 1 1", "FFFF and a variable one", of("1 1 1", "1 1 1 *"));
    }

    private static void longestRows(Check check) {
        check.sentence("COMPARED .. by all p that are not 0: up to the last of the longest rows");
        WeightOrder x = new WeightOrder();
        Check.tellAll(x, "1 0 0, 1 0 0, 1 0 0, 1 0 0, 1 0 0, 1 0 0, 1 0 0, 1 0 0", 1);
        Check.tellAll(x, "1 0 0, 1 0 0, 1 0 0, 1 0 0, 1 0 0, 1 0 0, 1 0 0, 2 0 0", 2);
        for (int k = 1; k < 200; k++) {
            x.add(0, 1);
            x.add(1, 1);
        }
        x.add(0, 1);
        check.answers(1, "the longer one", () -> x.compare(0, 1, 1, false));
        check.answers(200, "full", () -> x.add(1, 2));
        check.answers(-1, "the last number of 1600", () -> x.compare(0, 1, 1, false));
        check.answers(1, "the other way", () -> x.compare(1, 0, 4, true));
        check.answers(0, "with itself", () -> x.compare(1, 1, 4, true));
    }
}
