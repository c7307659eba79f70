import java.util.ArrayList;
import java.util.List;
import java.util.TreeSet;
import java.util.regex.Matcher;
import java.util.regex.Pattern;

/**
 * The document once more, written apart from the class and as plainly as can be: lists that are
 * copied, and all that could be is looked at. The class is held against it.
 */
public final class PlainWall {
    private static final int NONE = -1, UNKNOWN = -1000000001, OUTSIDE = -1000000002, NOT = -1000000003, FULL = -1000000004;

    private static final class Column {
        int price, a, b, goods, stick, wired;
        String kicks = "", rhythm = "l";
        boolean rhythmTold;
    }

    private static final class Now {
        List<int[]> kinds = new ArrayList<>();
        List<Column> columns = new ArrayList<>();
        List<Integer> slugs = new ArrayList<>();
        int lost, stamps, sales, damp, worn, seed;

        Now copy() {
            Now n = new Now();
            for (int[] kind : kinds) {
                n.kinds.add(kind.clone());
            }
            for (Column c : columns) {
                Column d = new Column();
                d.price = c.price;
                d.a = c.a;
                d.b = c.b;
                d.goods = c.goods;
                d.stick = c.stick;
                d.wired = c.wired;
                d.kicks = c.kicks;
                d.rhythm = c.rhythm;
                d.rhythmTold = c.rhythmTold;
                n.columns.add(d);
            }
            n.slugs.addAll(slugs);
            n.lost = lost;
            n.stamps = stamps;
            n.sales = sales;
            n.damp = damp;
            n.worn = worn;
            n.seed = seed;
            return n;
        }

        boolean passes(int c, int k) {
            int w = kinds.get(k)[1] - worn;
            return columns.get(c).a <= w && w <= columns.get(c).b;
        }

        /** Change in coins and in stamps, or null. */
        int[] sale(int c, int k, int n) {
            Column column = columns.get(c);
            if (column.stick >= 10 || !passes(c, k) || n * kinds.get(k)[0] < column.price
                    || columns.get(column.wired).goods < 1) {
                return null;
            }
            columns.get(column.wired).goods -= 1;
            for (int i = 0; i < n; i++) {
                if (kinds.get(k)[2] == 60) {
                    lost++;
                } else {
                    kinds.get(k)[2]++;
                }
            }
            int[] change = change(n * kinds.get(k)[0] - column.price);
            stamps += change[1];
            sales++;
            column.stick += damp * n;
            return change;
        }

        /** Coin by coin, always the greatest that can be given. */
        int[] change(int due) {
            int left = due;
            while (true) {
                int[] greatest = null;
                for (int[] kind : kinds) {
                    if (kind[2] > 0 && kind[0] <= left && (greatest == null || kind[0] > greatest[0])) {
                        greatest = kind;
                    }
                }
                if (greatest == null) {
                    return new int[] {due - left, left};
                }
                greatest[2]--;
                left -= greatest[0];
            }
        }

        int draw(int n) {
            seed = (int) ((seed * 1103515245L + 12345L) % (1L << 31));
            return seed / 65536 % n;
        }

        String till() {
            StringBuilder s = new StringBuilder();
            for (int[] kind : kinds) {
                s.append(kind[2]).append(' ');
            }
            for (Column c : columns) {
                s.append(c.goods).append(' ');
            }
            return s.append(lost).append(' ').append(stamps).toString();
        }
    }

    private String text = "";
    private int faultAt = NONE;
    private Now now = new Now();
    private final Now[] images = new Now[2];
    private final List<int[]> buyers = new ArrayList<>();
    private final List<Object[]> tries = new ArrayList<>();

    public int feed(int n, long bytes) {
        if (n < 1 || n > 8) {
            return OUTSIDE;
        }
        if (text.length() + n > 400) {
            return FULL;
        }
        StringBuilder s = new StringBuilder(text);
        for (int shift = 8 * (n - 1); shift >= 0; shift -= 8) {
            s.append((char) (bytes >>> shift & 255));
        }
        text = s.toString();
        return text.length();
    }

    private List<String> tokens = new ArrayList<>();
    private List<Integer> places = new ArrayList<>();

    private static final class Fault extends Exception {
        private static final long serialVersionUID = 1L;
        final int number, at;

        Fault(int number, int at) {
            this.number = number;
            this.at = at;
        }
    }

    public int wall() {
        tokens = new ArrayList<>();
        places = new ArrayList<>();
        Matcher m = Pattern.compile("[a-z]+|[0-9]+|[^ ]", Pattern.DOTALL).matcher(text);
        while (m.find()) {
            tokens.add(m.group());
            places.add(m.start());
        }
        tokens.add("");
        places.add(text.length());
        text = "";
        Now next = new Now();
        try {
            for (int t = 0; !tokens.get(t).isEmpty();) {
                t = clause(next, t);
            }
        } catch (Fault fault) {
            faultAt = fault.at;
            return -10 - fault.number;
        }
        next.seed = now.seed;
        now = next;
        faultAt = NONE;
        buyers.clear();
        tries.clear();
        images[0] = null;
        images[1] = null;
        return now.columns.size();
    }

    private int clause(Now next, int t) throws Fault {
        String word = tokens.get(t);
        int[][] bounds;
        int had = 0;
        switch (word) {
            case "coin":
                bounds = new int[][] {{1, 99}, {10, 99}, {0, 60}};
                had = next.kinds.size();
                break;
            case "column":
                bounds = new int[][] {{1, 99}, {1, 99}, {1, 99}, {0, 60}};
                had = next.columns.size();
                break;
            case "slug":
                bounds = new int[][] {{1, 99}};
                had = next.slugs.size();
                break;
            case "kick":
                bounds = new int[][] {{0, next.columns.size() - 1}};
                break;
            default:
                throw new Fault(1, places.get(t));
        }
        if (had == 5) {
            throw new Fault(3, places.get(t));
        }
        t++;
        int[] numbers = new int[bounds.length];
        for (int i = 0; i < bounds.length; i++, t++) {
            String token = tokens.get(t);
            if (!token.matches("[0-9]+")) {
                throw new Fault(1, places.get(t));
            }
            if (token.length() > 3 || Integer.parseInt(token) < bounds[i][0] || Integer.parseInt(token) > bounds[i][1]) {
                throw new Fault(2, places.get(t));
            }
            numbers[i] = Integer.parseInt(token);
            if (word.equals("column") && i == 2 && numbers[2] < numbers[1]
                    || word.equals("kick") && next.columns.get(numbers[0]).rhythmTold) {
                throw new Fault(4, places.get(t));
            }
        }
        if (word.equals("kick")) {
            String row = tokens.get(t);
            if (!row.matches("[a-z]+")) {
                throw new Fault(1, places.get(t));
            }
            if (!row.matches("[lr]{1,6}")) {
                throw new Fault(4, places.get(t));
            }
            next.columns.get(numbers[0]).rhythm = row;
            next.columns.get(numbers[0]).rhythmTold = true;
            t++;
        }
        if (!tokens.get(t).equals(";")) {
            throw new Fault(1, places.get(t));
        }
        if (word.equals("coin")) {
            next.kinds.add(numbers);
        } else if (word.equals("slug")) {
            next.slugs.add(numbers[0]);
        } else if (word.equals("column")) {
            Column c = new Column();
            c.price = numbers[0];
            c.a = numbers[1];
            c.b = numbers[2];
            c.goods = numbers[3];
            c.wired = next.columns.size();
            next.columns.add(c);
        }
        return t + 1;
    }

    public int fault() {
        return faultAt;
    }

    public int told(int what) {
        int value = 0;
        for (int[] kind : now.kinds) {
            value += kind[0] * kind[2];
        }
        int[] all = {now.kinds.size(), now.columns.size(), now.slugs.size(), text.length(), now.lost, now.stamps,
            now.sales, now.damp, now.worn, buyers.size(), tries.size(), value};
        return what < 0 || what > 11 ? OUTSIDE : all[what];
    }

    private boolean noKind(int k) {
        return k < 0 || k >= now.kinds.size();
    }

    private boolean noColumn(int c) {
        return c < 0 || c >= now.columns.size();
    }

    public int coin(int k, int what) {
        if (noKind(k)) {
            return UNKNOWN;
        }
        int set = 0;
        for (int c = 0; c < now.columns.size(); c++) {
            set += now.passes(c, k) ? 1 << c : 0;
        }
        int[] kind = now.kinds.get(k);
        int[] all = {kind[0], kind[1], kind[1] - now.worn, kind[2], set};
        return what < 0 || what > 4 ? OUTSIDE : all[what];
    }

    public int column(int c, int what) {
        if (noColumn(c)) {
            return UNKNOWN;
        }
        Column column = now.columns.get(c);
        int set = 0;
        for (int k = 0; k < now.kinds.size(); k++) {
            set += now.passes(c, k) ? 1 << k : 0;
        }
        int slugs = 0;
        for (int s = 0; s < now.slugs.size(); s++) {
            slugs += now.slugs.get(s) >= column.a && now.slugs.get(s) <= column.b ? 1 << s : 0;
        }
        int[] all = {column.price, column.a, column.b, column.goods, column.stick, column.stick > 9 ? 1 : 0,
            column.wired, set, slugs};
        return what < 0 || what > 8 ? OUTSIDE : all[what];
    }

    public int buy(int c, int k, int n) {
        if (noColumn(c) || noKind(k)) {
            return UNKNOWN;
        }
        if (n < 1 || n > 99) {
            return OUTSIDE;
        }
        int[] change = now.sale(c, k, n);
        return change == null ? NOT : change[0];
    }

    public int kick(int c, int side) {
        if (noColumn(c)) {
            return UNKNOWN;
        }
        if (side < 0 || side > 1) {
            return OUTSIDE;
        }
        Column column = now.columns.get(c);
        if (column.stick < 10) {
            return NOT;
        }
        column.kicks += side == 0 ? "l" : "r";
        if (column.kicks.endsWith(column.rhythm)) {
            column.stick = 0;
            column.kicks = "";
            return 1;
        }
        return 0;
    }

    public int damp(int v) {
        int old = now.damp;
        if (v < 0 || v > 9) {
            return OUTSIDE;
        }
        now.damp = v;
        return old;
    }

    public int wear(int v) {
        int old = now.worn;
        if (v < 0 || v > 9) {
            return OUTSIDE;
        }
        now.worn = v;
        return old;
    }

    public int stock(int c, int n) {
        if (noColumn(c)) {
            return UNKNOWN;
        }
        int old = now.columns.get(c).goods;
        if (n < 0 || n > 60) {
            return OUTSIDE;
        }
        now.columns.get(c).goods = n;
        return old;
    }

    public int tube(int k, int n) {
        if (noKind(k)) {
            return UNKNOWN;
        }
        int old = now.kinds.get(k)[2];
        if (n < 0 || n > 60) {
            return OUTSIDE;
        }
        now.kinds.get(k)[2] = n;
        return old;
    }

    public int price(int c, int v) {
        if (noColumn(c)) {
            return UNKNOWN;
        }
        int old = now.columns.get(c).price;
        if (v < 1 || v > 99) {
            return OUTSIDE;
        }
        now.columns.get(c).price = v;
        return old;
    }

    public int span(int c, int a, int b) {
        if (noColumn(c)) {
            return UNKNOWN;
        }
        if (a < 1 || a > 99 || b < 1 || b > 99 || b < a) {
            return OUTSIDE;
        }
        Column column = now.columns.get(c);
        int old = 100 * column.a + column.b;
        column.a = a;
        column.b = b;
        return old;
    }

    public int wire(int c, int d) {
        if (noColumn(c) || noColumn(d)) {
            return UNKNOWN;
        }
        int old = now.columns.get(c).wired;
        now.columns.get(c).wired = d;
        return old;
    }

    public int drift(int n) {
        if (n < 1 || n > 99) {
            return OUTSIDE;
        }
        if (now.kinds.isEmpty() || now.columns.isEmpty()) {
            return NOT;
        }
        int before = now.sales;
        for (int day = 0; day < n; day++) {
            now.damp = now.draw(4);
            for (int i = 0; i < 4; i++) {
                int c = now.draw(now.columns.size());
                int k = now.draw(now.kinds.size());
                now.sale(c, k, now.draw(6) + 1);
            }
        }
        return now.sales - before;
    }

    /** All rows of up to most coins over five kinds; of a total those with more of the first kinds come first. */
    private static List<int[]> rows(int most) {
        List<int[]> rows = new ArrayList<>();
        for (int total = 0; total <= most; total++) {
            for (int a = total; a >= 0; a--) {
                for (int b = total - a; b >= 0; b--) {
                    for (int c = total - a - b; c >= 0; c--) {
                        for (int d = total - a - b - c; d >= 0; d--) {
                            rows.add(new int[] {a, b, c, d, total - a - b - c - d});
                        }
                    }
                }
            }
        }
        return rows;
    }

    private static final List<int[]> ROWS_OF_8 = rows(8);
    private static final List<int[]> ROWS_OF_5 = rows(5);

    private boolean usesUnknownKind(int[] row) {
        for (int k = now.kinds.size(); k < 5; k++) {
            if (row[k] > 0) {
                return true;
            }
        }
        return false;
    }

    private static int answer(int[] row, int k) {
        return k == NONE ? row[0] + row[1] + row[2] + row[3] + row[4] : row[k];
    }

    public int fewest(int c, int k) {
        if (noColumn(c) || k != NONE && noKind(k)) {
            return UNKNOWN;
        }
        for (int[] row : ROWS_OF_8) {
            if (!usesUnknownKind(row) && buys(row, c)) {
                return answer(row, k);
            }
        }
        return NONE;
    }

    private boolean buys(int[] row, int c) {
        int sum = 0;
        for (int k = 0; k < now.kinds.size(); k++) {
            if (row[k] > 0 && !now.passes(c, k)) {
                return false;
            }
            sum += row[k] * now.kinds.get(k)[0];
        }
        if (sum < now.columns.get(c).price) {
            return false;
        }
        Now then = now.copy();
        for (int k = 0; k < then.kinds.size(); k++) {
            then.kinds.get(k)[2] = Math.min(60, then.kinds.get(k)[2] + row[k]);
        }
        return then.change(sum - now.columns.get(c).price)[1] == 0;
    }

    public int buyer(int c, int k, int n) {
        if (noColumn(c) || noKind(k)) {
            return UNKNOWN;
        }
        if (n < 1 || n > 99) {
            return OUTSIDE;
        }
        if (buyers.size() == 8) {
            return FULL;
        }
        buyers.add(new int[] {c, k, n});
        return buyers.size();
    }

    public int fill(int k) {
        if (k != NONE && noKind(k)) {
            return UNKNOWN;
        }
        for (int[] row : ROWS_OF_5) {
            if (!usesUnknownKind(row) && fills(row)) {
                return answer(row, k);
            }
        }
        return NONE;
    }

    private boolean fills(int[] row) {
        Now then = now.copy();
        for (int k = 0; k < then.kinds.size(); k++) {
            then.kinds.get(k)[2] += row[k];
            if (then.kinds.get(k)[2] > 60) {
                return false;
            }
        }
        for (int[] b : buyers) {
            int[] change = then.sale(b[0], b[1], b[2]);
            if (change == null || change[1] > 0) {
                return false;
            }
        }
        return true;
    }

    public int shortOn() {
        Now then = now.copy();
        for (int day = 1; day <= 99; day++) {
            for (int[] b : buyers) {
                if (then.sale(b[0], b[1], b[2]) == null) {
                    return day;
                }
            }
        }
        return NONE;
    }

    public int night(int what) {
        if (what < 0 || what > 1) {
            return OUTSIDE;
        }
        if (images[0] == null) {
            return NOT;
        }
        List<Integer> sets = new ArrayList<>();
        for (int set = 0; set < 1 << buyers.size(); set++) {
            Now then = images[0].copy();
            boolean made = true;
            for (int b = 0; b < buyers.size() && made; b++) {
                int[] sale = buyers.get(b);
                made = (set & 1 << b) == 0 || then.sale(sale[0], sale[1], sale[2]) != null;
            }
            if (made && then.till().equals(now.till())) {
                sets.add(set);
            }
        }
        if (what == 0) {
            return sets.size();
        }
        int sure = sets.isEmpty() ? 0 : 255;
        for (int set : sets) {
            sure &= set;
        }
        return sure;
    }

    public int best(int what) {
        if (what < 0 || what > 2) {
            return OUTSIDE;
        }
        int[] best = null;
        for (int wide = 0; wide < 99; wide++) {
            for (int a = 1; a + wide < 100; a++) {
                int kinds = 0;
                for (int[] kind : now.kinds) {
                    kinds += kind[1] - now.worn >= a && kind[1] - now.worn <= a + wide ? 1 : 0;
                }
                if (new TreeSet<>(now.slugs).subSet(a, a + wide + 1).isEmpty() && (best == null || kinds > best[2])) {
                    best = new int[] {a, a + wide, kinds};
                }
            }
        }
        return now.kinds.isEmpty() || best == null ? NONE : best[what];
    }

    public int cheat(int c) {
        return noColumn(c) ? UNKNOWN : now.columns.get(now.columns.get(c).wired).price - now.columns.get(c).price;
    }

    public int cheats() {
        int best = NONE;
        for (int c = now.columns.size() - 1; c >= 0; c--) {
            if (cheat(c) > 0 && (best == NONE || cheat(c) >= cheat(best))) {
                best = c;
            }
        }
        return best;
    }

    public int attempt(int row, int n, boolean free) {
        if (n < 1 || n > 8 || row < 0 || row > (1 << n) - 1) {
            return OUTSIDE;
        }
        if (tries.size() == 10) {
            return FULL;
        }
        tries.add(new Object[] {letters(row, n), free});
        return tries.size();
    }

    private static String letters(int row, int n) {
        StringBuilder s = new StringBuilder();
        for (int k = 0; k < n; k++) {
            s.append((row & 1 << k) == 0 ? 'l' : 'r');
        }
        return s.toString();
    }

    public int fits(int m, int i) {
        if (m < 1 || m > 6) {
            return OUTSIDE;
        }
        List<Integer> all = new ArrayList<>();
        for (int row = 0; row < 1 << m; row++) {
            boolean fits = true;
            for (Object[] t : tries) {
                String kicks = (String) t[0];
                int first = kicks.indexOf(letters(row, m));
                fits &= (Boolean) t[1] ? first >= 0 && first + m == kicks.length() : first < 0;
            }
            if (fits) {
                all.add(row);
            }
        }
        return i == NONE ? all.size() : i >= 0 && i < all.size() ? all.get(i) : NONE;
    }

    public int tear() {
        int both = buyers.size() + tries.size();
        buyers.clear();
        tries.clear();
        return both;
    }

    public int seed(int v) {
        int old = now.seed;
        if (v < 0) {
            return OUTSIDE;
        }
        now.seed = v;
        return old;
    }

    public int keep(int i) {
        if (i < 0 || i > 1) {
            return UNKNOWN;
        }
        images[i] = now.copy();
        return 1;
    }

    public int goBack(int i) {
        if (i < 0 || i > 1) {
            return UNKNOWN;
        }
        if (images[i] == null) {
            return NOT;
        }
        now = images[i].copy();
        return 1;
    }
}
