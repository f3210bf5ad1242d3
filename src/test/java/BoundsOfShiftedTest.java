/** 'Terms': SHIFTED. */
public final class BoundsOfShiftedTest {
    public static void main(String[] args) {
        Check check = new Check();
        variableAboveZero(check);
        behindSuch(check);
        onlyZeroBetween(check);
        fromLineToLine(check);
        allZero(check);
        otherwise(check);
        notShifted(check);
        check.end();
    }

    private static String of(String elements) {
        WeightOrder x = new WeightOrder();
        Check.tellAll(x, elements, 1);
        x.add(0, 1);
        return Check.elementsOf(x, 0, true);
    }

    private static void variableAboveZero(Check check) {
        check.sentence("* with p above 0: [0.0.0.p]");
        check.due("[0.0.0.1]", "p 1", of("1 0 0 *"));
        check.due("[0.0.0.1]", "p 1 with s and t", of("1 65535 65535 *"));
        check.due("[0.0.0.65535]", "p 65535", of("65535 65535 65535 *"));
        check.due("[0.0.0.32768]", "p 32768", of("32768 1 1 *"));
        check.due("[0.1.0.65535]", "p 0 is not above 0", of("0 1 0 *"));
        check.due("[1.1.1.65535]", "p above 0, not *", of("1 1 1"));
        check.due("[0.0.0.1][0.0.0.2]", "one behind another", of("1 1 1 *, 2 1 1 *"));
    }

    private static void behindSuch(Check check) {
        check.sentence("p 0 behind such: [0.0.0.0]");
        check.due("[0.0.0.1][0.0.0.0]", "s and t", of("1 0 0 *, 0 65535 65535"));
        check.due("[0.0.0.1][0.0.0.0]", "s alone", of("1 0 0 *, 0 1 0"));
        check.due("[0.0.0.1][0.0.0.0]", "t alone", of("1 0 0 *, 0 0 1"));
        check.due("[0.0.0.1][0.0.0.0]", "all 0", of("1 0 0 *, 0 0 0"));
        check.due("[0.0.0.1][0.0.0.0]", "p 0 that is *", of("1 0 0 *, 0 1 1 *"));
        check.due("[0.0.0.65535][0.0.0.0]", "behind the highest p", of("65535 0 0 *, 0 1 1"));
        check.due("[0.0.0.1][1.0.0.65535]", "p 1 behind such", of("1 0 0 *, 1 0 0"));
        check.due("[0.1.1.65535][0.0.0.1]", "p 0 before such", of("0 1 1, 1 0 0 *"));
        check.due("[1.1.1.65535][0.1.1.65535]", "p 0 behind one that is not *", of("1 1 1, 0 1 1"));
        check.due("[0.1.1.65535][0.1.1.65535]", "p 0 behind * with p 0", of("0 1 1 *, 0 1 1"));
        check.due("[0.0.0.0][0.1.1.65535]", "p 0 behind * that is all 0", of("0 0 0 *, 0 1 1"));
    }

    private static void onlyZeroBetween(Check check) {
        check.sentence("(with only p 0 between)");
        check.due("[0.0.0.1][0.0.0.0][0.0.0.0]", "one between", of("1 0 0 *, 0 1 1, 0 1 1"));
        check.due("[0.0.0.1][0.0.0.0][0.0.0.0]", "all 0 between", of("1 0 0 *, 0 0 0, 0 1 1"));
        check.due("[0.0.0.1][0.0.0.0][0.0.0.0]", "* with p 0 between", of("1 0 0 *, 0 1 1 *, 0 1 1"));
        check.due("[0.0.0.1][0.0.0.0][0.0.0.0][0.0.0.0][0.0.0.0][0.0.0.0][0.0.0.0][0.0.0.0]", "six between",
                of("1 0 0 *, 0 1 1, 0 1 1, 0 1 1, 0 1 1, 0 1 1, 0 1 1, 0 1 1"));
        check.due("[0.0.0.1][1.0.0.65535][0.1.1.65535]", "p 1 between", of("1 0 0 *, 1 0 0, 0 1 1"));
        check.due("[0.0.0.1][0.0.0.0][1.0.0.65535][0.1.1.65535]", "p 0 and p 1 between",
                of("1 0 0 *, 0 1 1, 1 0 0, 0 1 1"));
        check.due("[0.0.0.1][1.0.0.65535][0.1.0.65535][0.1.1.65535]", "p 1 and p 0 between",
                of("1 0 0 *, 1 0 0, 0 1 0, 0 1 1"));
        check.due("[0.0.0.1][1.0.0.65535][0.0.0.2][0.0.0.0]", "such again", of("1 0 0 *, 1 0 0, 2 0 0 *, 0 1 1"));
    }

    private static void fromLineToLine(Check check) {
        check.sentence("each [p.s.t] gets a fourth: also behind those of another LINE");
        WeightOrder x = new WeightOrder();
        Check.tellAll(x, "1 0 0 *", 1);
        Check.tellAll(x, "0 1 1", 2);
        Check.tellAll(x, "", 3);
        Check.tellAll(x, "9 9 9", 4);
        Check.fill(x, 0, 2, 1, 3, 2, 2, 4, 2);
        check.elements("[0.1.1.65535][0.0.0.1][0.0.0.0][0.0.0.0][9.9.9.65535][0.1.1.65535]", "lines", x, 0, true);
        Check.fill(x, 0, 1, 5, 2);
        check.elements("[0.0.0.1][64448.32.2.65535][32773.0.0.65535][0.1.1.65535]", "IMPLICIT between", x, 0, true);
        Check.fill(x, 0, 1);
        Check.fill(x, 1, 2);
        check.elements("[0.0.0.1]", "one row ends with such", x, 0, true);
        check.elements("[0.1.1.65535]", "the next does not stand behind it", x, 1, true);
        check.answers(-1, "nor when both are compared", () -> x.compare(0, 1, 2, true));
    }

    private static void allZero(Check check) {
        check.sentence("p, s, t 0: 0");
        check.due("[0.0.0.0]", "alone", of("0 0 0"));
        check.due("[0.0.0.0]", "alone and *", of("0 0 0 *"));
        check.due("[1.1.1.65535][0.0.0.0]", "behind one that is not *", of("1 1 1, 0 0 0"));
        check.due("[0.0.0.0][0.0.0.0]", "twice", of("0 0 0, 0 0 0 *"));
        check.due("[0.0.0.0][1.1.1.65535]", "before another", of("0 0 0, 1 1 1"));
    }

    private static void otherwise(Check check) {
        check.sentence("else FFFF");
        check.due("[1.0.0.65535]", "p alone", of("1 0 0"));
        check.due("[0.1.0.65535]", "s alone", of("0 1 0"));
        check.due("[0.0.1.65535]", "t alone", of("0 0 1"));
        check.due("[0.0.1.65535]", "t alone and *", of("0 0 1 *"));
        check.due("[65535.65535.65535.65535]", "the highest", of("65535 65535 65535"));
        WeightOrder x = new WeightOrder();
        x.add(0, 0);
        check.elements("[64448.32.2.65535][32768.0.0.65535]", "IMPLICIT", x, 0, true);
    }

    private static void notShifted(Check check) {
        check.sentence("SHIFTED: else the weights are those told");
        WeightOrder x = new WeightOrder();
        Check.tellAll(x, "1 2 3 *, 0 4 5, 0 0 0, 6 7 8", 1);
        x.add(0, 1);
        x.count(0, true);
        check.elements("[1.2.3.0][0.4.5.0][0.0.0.0][6.7.8.0]", "all four", x, 0, false);
        check.elements("[0.0.0.1][0.0.0.0][0.0.0.0][6.7.8.65535]", "all four shifted", x, 0, true);
        check.elements("[1.2.3.0][0.4.5.0][0.0.0.0][6.7.8.0]", "and again without", x, 0, false);
    }
}
