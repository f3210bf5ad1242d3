/** Behind the 512th call answers are free, but nothing may be thrown that the document does not name. */
public final class LongUseTest {
    public static void main(String[] args) {
        Check check = new Check();
        WeightOrder x = new WeightOrder();
        for (int k = 0; k < 3000; k++) {
            int point = k * 371 % 1114112;
            check.answers(0, "order " + k, () -> {
                x.order(point, 1 + point % 254);
                return 0;
            });
            known(check, "line " + k, () -> x.line(1 + point % 3, point, point / 2, point / 3));
            known(check, "element " + k, () -> x.element(point % 65536, 1, 1, point % 2 == 0));
            known(check, "add " + k, () -> x.add(point % 4, point));
            known(check, "weight " + k, () -> x.weight(point % 4, true, point % 1600, 3));
            known(check, "compare " + k, () -> x.compare(point % 4, point / 4 % 4, 4, true));
        }
        check.end();
    }

    private static void known(Check check, String what, Check.Call call) {
        String got = Check.outcomeOf(call);
        boolean known = got.matches("-?[0-9]+|IllegalArgumentException|IndexOutOfBoundsException");
        check.due("true", what + " (" + got + ") is an answer or a named exception", "" + known);
    }
}
