import java.util.ArrayList;
import java.util.HashMap;
import java.util.List;
import java.util.Map;

/** The document said again with lists and maps, to hold the program against; answers are texts. */
final class PlainOrder {
    private final Map<Integer, Integer> classes = new HashMap<>();
    private final Map<List<Integer>, List<int[]>> lines = new HashMap<>();
    private final List<List<Integer>> rows = new ArrayList<>();
    private List<int[]> last = null;

    PlainOrder() {
        for (int r = 0; r < 4; r++) {
            rows.add(new ArrayList<>());
        }
    }

    String order(int point, int c) {
        if (out(point, 1114111) || out(c, 254)) {
            return "IllegalArgumentException";
        }
        classes.put(point, c);
        return "0";
    }

    String line(int n, int a, int b, int c) {
        if (n < 1 || n > 3 || out(a, 1114111) || out(b, 1114111) || out(c, 1114111)) {
            return "IllegalArgumentException";
        }
        List<Integer> key = new ArrayList<>(List.of(a, b, c).subList(0, n));
        if (!lines.containsKey(key) && lines.size() == 500) {
            return "IndexOutOfBoundsException";
        }
        last = new ArrayList<>();
        lines.put(key, last);
        return "" + lines.size();
    }

    String element(int p, int s, int t, boolean variable) {
        if (out(p, 65535) || out(s, 65535) || out(t, 65535) || last == null) {
            return "IllegalArgumentException";
        }
        if (last.size() == 8) {
            return "IndexOutOfBoundsException";
        }
        last.add(new int[] {p, s, t, variable ? 1 : 0});
        return "" + last.size();
    }

    String add(int r, int point) {
        if (out(r, 3) || out(point, 1114111)) {
            return "IllegalArgumentException";
        }
        if (rows.get(r).size() == 200) {
            return "IndexOutOfBoundsException";
        }
        rows.get(r).add(point);
        return "" + rows.get(r).size();
    }

    String clear(int r) {
        if (out(r, 3)) {
            return "IllegalArgumentException";
        }
        int had = rows.get(r).size();
        rows.get(r).clear();
        return "" + had;
    }

    String count(int r, boolean shifted) {
        return out(r, 3) ? "IllegalArgumentException" : "" + elements(r, shifted).size();
    }

    String weight(int r, boolean shifted, int i, int which) {
        if (out(r, 3) || out(which, 3) || out(i, elements(r, shifted).size() - 1)) {
            return "IllegalArgumentException";
        }
        return "" + elements(r, shifted).get(i)[which];
    }

    String compare(int r, int u, int strength, boolean shifted) {
        if (out(r, 3) || out(u, 3) || strength < 1 || strength > 4) {
            return "IllegalArgumentException";
        }
        for (int level = 0; level < (shifted ? strength : Math.min(strength, 3)); level++) {
            List<Integer> a = level(elements(r, shifted), level);
            List<Integer> b = level(elements(u, shifted), level);
            for (int i = 0; i < a.size() || i < b.size(); i++) {
                int x = i < a.size() ? a.get(i) : -1;
                int y = i < b.size() ? b.get(i) : -1;
                if (x != y) {
                    return x < y ? "-1" : "1";
                }
            }
        }
        return "0";
    }

    private static boolean out(int number, int last) {
        return number < 0 || number > last;
    }

    private static List<Integer> level(List<int[]> elements, int which) {
        List<Integer> level = new ArrayList<>();
        for (int[] element : elements) {
            if (element[which] != 0) {
                level.add(element[which]);
            }
        }
        return level;
    }

    private List<int[]> elements(int r, boolean shifted) {
        List<int[]> found = new ArrayList<>();
        List<Integer> left = new ArrayList<>(rows.get(r));
        while (!left.isEmpty()) {
            found.addAll(next(left));
        }
        List<int[]> answer = new ArrayList<>();
        for (int i = 0; i < found.size(); i++) {
            answer.add(shifted ? shifted(found, i) : plain(found.get(i)));
        }
        return answer;
    }

    private List<int[]> next(List<Integer> left) {
        int n = Math.min(3, left.size());
        while (n > 0 && !lines.containsKey(left.subList(0, n))) {
            n--;
        }
        if (n == 0) {
            int point = left.remove(0);
            return List.of(new int[] {0xFBC0 + point / 0x8000, 0x20, 2, 0},
                    new int[] {point % 0x8000 + 0x8000, 0, 0, 0});
        }
        List<Integer> s = new ArrayList<>();
        for (int k = 0; k < n; k++) {
            s.add(left.remove(0));
        }
        List<Integer> passed = new ArrayList<>();
        while (!left.isEmpty() && classOf(left.get(0)) > 0) {
            int point = left.remove(0);
            List<Integer> longer = new ArrayList<>(s);
            longer.add(point);
            boolean above = true;
            for (int other : passed) {
                above = above && classOf(point) > classOf(other);
            }
            if (above && lines.containsKey(longer)) {
                s = longer;
            } else {
                passed.add(point);
            }
        }
        left.addAll(0, passed);
        return lines.get(s);
    }

    private int classOf(int point) {
        return classes.getOrDefault(point, 0);
    }

    private static int[] plain(int[] element) {
        return new int[] {element[0], element[1], element[2], 0};
    }

    private static int[] shifted(List<int[]> found, int i) {
        int[] e = found.get(i);
        if (e[3] == 1 && e[0] > 0) {
            return new int[] {0, 0, 0, e[0]};
        }
        int before = i;
        while (before >= 0 && found.get(before)[0] == 0) {
            before--;
        }
        if (e[0] == 0 && before >= 0 && found.get(before)[3] == 1) {
            return new int[] {0, 0, 0, 0};
        }
        return new int[] {e[0], e[1], e[2], e[0] == 0 && e[1] == 0 && e[2] == 0 ? 0 : 65535};
    }
}
