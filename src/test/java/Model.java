import java.util.ArrayList;
import java.util.Arrays;
import java.util.HashMap;
import java.util.List;
import java.util.Map;
import java.util.TreeMap;
import java.util.regex.Matcher;
import java.util.regex.Pattern;

/**
 * The document once more, written the slow and plain way with the Java library, to be held against
 * NeckRider call by call. It shares no code with it.
 */
final class Model {
    static final int GONE = -1;
    static final int OFFER = 1;
    static final int THROW = 2;

    /** A fault of the text: its number and place. */
    static final class Fault extends RuntimeException {
        private static final long serialVersionUID = 1L;
        final int number;
        final int place;

        Fault(int number, int place) {
            this.number = number;
            this.place = place;
        }
    }

    record Token(String text, int place) { }

    /** What a text tells. Trees, vines and bearers are pairs of a place and a number. */
    static final class Told {
        int places, hours, weight, odds, lines;
        List<int[]> paths = new ArrayList<>();
        List<int[]> trees = new ArrayList<>();
        List<int[]> vines = new ArrayList<>();
        List<int[]> bearers = new ArrayList<>();
        List<Integer> brooks = new ArrayList<>();

        Told copy() {
            Told t = new Told();
            t.places = places;
            t.hours = hours;
            t.weight = weight;
            t.odds = odds;
            t.lines = lines;
            for (int[] p : paths) t.paths.add(p.clone());
            for (int[] p : trees) t.trees.add(p.clone());
            for (int[] p : vines) t.vines.add(p.clone());
            for (int[] p : bearers) t.bearers.add(p.clone());
            t.brooks.addAll(brooks);
            return t;
        }

        private int[][] known;

        int[][] distances() {
            if (known == null) known = measured();
            return known;
        }

        private int[][] measured() {
            int[][] d = new int[places][places];
            for (int[] line : d) Arrays.fill(line, 1000);
            for (int i = 0; i < places; i++) d[i][i] = 0;
            for (int[] p : paths) d[p[0]][p[1]] = d[p[1]][p[0]] = 1;
            for (int k = 0; k < places; k++)
                for (int i = 0; i < places; i++)
                    for (int j = 0; j < places; j++) d[i][j] = Math.min(d[i][j], d[i][k] + d[k][j]);
            return d;
        }
    }

    /** He, the bearers and the trees at the beginning of an hour. */
    static final class Moment implements Cloneable {
        int place = GONE, bearer = GONE, weight, end = GONE, how = GONE;
        int drankAt = -100;
        int[] tired, fruit;
        boolean[] fallen, drunkUp;
        // Of the hour that led here:
        int deed;
        boolean worked, drunk;
        int carrier = GONE;

        Moment next() {
            try {
                Moment m = (Moment) clone();
                m.tired = tired.clone();
                m.fruit = fruit.clone();
                m.fallen = fallen.clone();
                m.drunkUp = drunkUp.clone();
                m.worked = false;
                m.carrier = GONE;
                return m;
            } catch (CloneNotSupportedException e) {
                throw new IllegalStateException(e);
            }
        }
    }

    private final StringBuilder tape = new StringBuilder();
    private Told told;
    private TreeMap<Integer, Integer> acts = new TreeMap<>();
    private List<Integer> order = new ArrayList<>();
    private int faultNumber = 0, faultPlace = -1;
    private final Told[] keptTold = new Told[3];
    private final List<TreeMap<Integer, Integer>> keptActs = new ArrayList<>(List.of(
        new TreeMap<>(), new TreeMap<>(), new TreeMap<>()));
    private final List<List<Integer>> keptOrder = new ArrayList<>(List.of(
        new ArrayList<>(), new ArrayList<>(), new ArrayList<>()));
    private final boolean[] kept = new boolean[3];
    private final long[][] slots = new long[4][];
    private final int[] widths = new int[4];
    /** The widest layer of rows that a search has met, for the test to see that it met some. */
    int widest = 0;

    // ---- text ----

    int feed(int a, int b, int c, int d, int e) {
        if (tape.length() + 20 > 800) return -1;
        for (int n : new int[] {a, b, c, d, e})
            for (int k = 3; k >= 0; k--) tape.append((char) ((n >>> 8 * k) % 256 & 255));
        return tape.length();
    }

    int end(int n) {
        if (n < 0 || n > tape.length()) return -1;
        tape.setLength(n);
        return n;
    }

    int isle() {
        String text = tape.toString();
        tape.setLength(0);
        try {
            Told t = parse(text);
            faultNumber = 0;
            faultPlace = -1;
            told = t.lines == 0 ? null : t;
            acts = new TreeMap<>();
            order = new ArrayList<>();
            return t.lines;
        } catch (Fault f) {
            faultNumber = f.number;
            faultPlace = f.place;
            return -4;
        }
    }

    private static final Map<String, String> FORMS = new HashMap<>();
    static {
        FORMS.put("path", "P to Q");
        FORMS.put("tree", "at P fruit 0-9");
        FORMS.put("vine", "at P ripe 0-12");
        FORMS.put("brook", "at P");
        FORMS.put("bearer", "at P strength 1-99");
    }

    static Told parse(String text) {
        List<Token> tokens = new ArrayList<>();
        Matcher m = Pattern.compile("[a-z]+|[0-9]+|[^ \n]", Pattern.DOTALL).matcher(text);
        while (m.find()) tokens.add(new Token(m.group(), m.start()));
        tokens.add(new Token("", text.length()));
        Told t = new Told();
        int i = 0;
        while (!tokens.get(i).text.isEmpty()) {
            Token first = tokens.get(i);
            String form;
            if (t.lines == 0) {
                if (!first.text.equals("isle")) throw new Fault(1, first.place);
                form = "places 2-7 hours 1-12 weight 1-20 odds 0-10";
            } else {
                form = FORMS.get(first.text);
                if (form == null) throw new Fault(1, first.place);
                List<int[]> list = listOf(t, first.text);
                int most = Map.of("path", 10, "tree", 5, "vine", 3, "bearer", 5)
                    .getOrDefault(first.text, 1000);
                if (list != null && list.size() == most) throw new Fault(3, first.place);
            }
            i++;
            List<Integer> numbers = new ArrayList<>();
            for (String part : form.split(" ")) {
                Token token = tokens.get(i++);
                if (part.matches("[a-z]+")) {
                    if (!token.text.equals(part)) throw new Fault(1, token.place);
                    continue;
                }
                if (!token.text.matches("[0-9]+")) throw new Fault(1, token.place);
                String bare = token.text.replaceFirst("^0+(?=.)", "");
                int value = bare.length() > 4 ? 9999 : Integer.parseInt(bare);
                int low = 0, high = t.places - 1;
                if (part.contains("-")) {
                    low = Integer.parseInt(part.split("-")[0]);
                    high = Integer.parseInt(part.split("-")[1]);
                }
                if (value < low || value > high) throw new Fault(2, token.place);
                if (part.equals("Q") && value == numbers.get(0)) throw new Fault(2, token.place);
                numbers.add(value);
            }
            if (!tokens.get(i).text.equals(";")) throw new Fault(1, tokens.get(i).place);
            i++;
            take(t, first.text, numbers);
            t.lines++;
        }
        return t;
    }

    private static List<int[]> listOf(Told t, String word) {
        return switch (word) {
            case "path" -> t.paths;
            case "tree" -> t.trees;
            case "vine" -> t.vines;
            case "bearer" -> t.bearers;
            default -> null;
        };
    }

    private static void take(Told t, String word, List<Integer> n) {
        if (word.equals("isle")) {
            t.places = n.get(0);
            t.hours = n.get(1);
            t.weight = n.get(2);
            t.odds = n.get(3);
        } else if (word.equals("brook")) {
            t.brooks.add(n.get(0));
        } else {
            listOf(t, word).add(new int[] {n.get(0), n.get(1)});
        }
    }

    int fault(int what) {
        return what == 0 ? faultNumber : what == 1 ? faultPlace : -1;
    }

    // ---- the isle ----

    private boolean place(int p) {
        return told != null && p >= 0 && p < told.places;
    }

    private boolean hour(int h) {
        return told != null && h >= 0 && h < told.hours;
    }

    private boolean moment(int h) {
        return told != null && h >= 0 && h <= told.hours;
    }

    private boolean bearerIs(int b) {
        return told != null && b >= 0 && b < told.bearers.size();
    }

    private boolean treeIs(int t) {
        return told != null && t >= 0 && t < told.trees.size();
    }

    private boolean vineIs(int v) {
        return told != null && v >= 0 && v < told.vines.size();
    }

    int tree(int t, int what) {
        return treeIs(t) && (what == 0 || what == 1) ? told.trees.get(t)[what] : -2;
    }

    int vine(int v, int what) {
        return vineIs(v) && (what == 0 || what == 1) ? told.vines.get(v)[what] : -2;
    }

    int bearer(int b, int what) {
        return bearerIs(b) && (what == 0 || what == 1) ? told.bearers.get(b)[what] : -2;
    }

    int brooks() {
        if (told == null) return -2;
        int bits = 0;
        for (int p : told.brooks) bits |= 1 << p;
        return bits;
    }

    int way(int p, int q) {
        if (!place(p) || !place(q)) return -2;
        int d = told.distances()[p][q];
        return d >= 1000 ? -1 : d;
    }

    int beside(int p) {
        if (!place(p)) return -2;
        int bits = 0;
        for (int q = 0; q < told.places; q++) if (told.distances()[p][q] == 1) bits |= 1 << q;
        return bits;
    }

    int steers(int p) {
        if (!place(p)) return -2;
        int[] fruit = told.trees.stream().mapToInt(t -> t[1]).toArray();
        return steer(told, told.distances(), p, fruit);
    }

    private static int steer(Told t, int[][] d, int p, int[] fruit) {
        for (int length = 0; length < 10; length++)
            for (int i = 0; i < fruit.length; i++)
                if (fruit[i] > 0 && d[p][t.trees.get(i)[0]] == length) return i;
        return -1;
    }

    int reach(int p) {
        if (!place(p)) return -2;
        int bits = 0;
        for (int q = 0; q < told.places; q++) if (told.distances()[p][q] < 1000) bits |= 1 << q;
        return bits;
    }

    int lone() {
        if (told == null) return -2;
        if (told.bearers.isEmpty()) return 0;
        int bits = 0;
        for (int t = 0; t < told.trees.size(); t++)
            if (way(told.bearers.get(0)[0], told.trees.get(t)[0]) == -1) bits |= 1 << t;
        return bits;
    }

    // ---- the ride ----

    static Moment beginning(Told t, int bearer, int place) {
        Moment m = new Moment();
        m.weight = t.weight;
        m.tired = new int[t.bearers.size()];
        m.fallen = new boolean[t.bearers.size()];
        m.fruit = t.trees.stream().mapToInt(x -> x[1]).toArray();
        m.drunkUp = new boolean[t.vines.size()];
        if (bearer < t.bearers.size()) {
            m.place = place;
            m.bearer = bearer;
        }
        return m;
    }

    static Moment live(Told t, Moment before, int hour, int act) {
        Moment m = before.next();
        m.deed = 0;
        boolean rides = m.bearer != GONE;
        boolean wasDrunk = hour - m.drankAt <= 2;
        if (rides && act == OFFER && !wasDrunk) {
            for (int v = 0; v < t.vines.size() && !m.worked; v++) {
                int[] vine = t.vines.get(v);
                if (vine[0] == m.place && vine[1] <= hour && !m.drunkUp[v]) {
                    m.drunkUp[v] = true;
                    m.drankAt = hour;
                    m.worked = true;
                }
            }
        }
        m.drunk = hour - m.drankAt <= 2;
        if (!rides) return m;
        int[][] d = t.distances();
        if (m.drunk) {
            m.deed = 1;
            if (act == THROW && t.brooks.contains(m.place)) {
                m.deed = 5;
                m.worked = true;
                m.how = 1;
                finish(m, hour);
            } else if (act >= 10 && d[m.place][act - 10] == 1) {
                m.worked = true;
                walk(t, m, act - 10, hour);
            }
            return m;
        }
        for (int i = 0; i < m.fruit.length; i++) {
            if (t.trees.get(i)[0] == m.place && m.fruit[i] > 0) {
                m.deed = 2;
                m.fruit[i]--;
                m.weight++;
                m.tired[m.bearer] = Math.max(0, m.tired[m.bearer] - 3);
                return m;
            }
        }
        int goal = steer(t, d, m.place, m.fruit);
        if (goal < 0) {
            m.deed = 4;
            return m;
        }
        int to = t.trees.get(goal)[0];
        for (int q = 0; q < t.places; q++) {
            if (d[m.place][q] == 1 && d[q][to] + 1 == d[m.place][to]) {
                walk(t, m, q, hour);
                return m;
            }
        }
        throw new IllegalStateException("no way on");
    }

    private static void walk(Told t, Moment m, int to, int hour) {
        m.deed = 3;
        m.carrier = m.bearer;
        m.place = to;
        m.tired[m.bearer] += m.weight;
        if (m.tired[m.bearer] <= t.bearers.get(m.bearer)[1]) return;
        m.fallen[m.bearer] = true;
        int heir = GONE;
        for (int b = t.bearers.size() - 1; b >= 0; b--) {
            if (t.bearers.get(b)[0] != to || m.fallen[b]) continue;
            if (heir == GONE || t.bearers.get(b)[1] >= t.bearers.get(heir)[1]) heir = b;
        }
        m.bearer = heir;
        if (heir == GONE) {
            m.how = 0;
            finish(m, hour);
        }
    }

    private static void finish(Moment m, int hour) {
        m.end = hour;
        m.place = GONE;
        m.bearer = GONE;
    }

    static List<Moment> story(Told t, Map<Integer, Integer> acts, int bearer, int place) {
        List<Moment> list = new ArrayList<>();
        list.add(beginning(t, bearer, place));
        for (int h = 0; h < t.hours; h++)
            list.add(live(t, list.get(h), h, acts.getOrDefault(h, 0)));
        return list;
    }

    private List<Moment> now() {
        return story(told, acts, 0, told.bearers.isEmpty() ? 0 : told.bearers.get(0)[0]);
    }

    private static Moment last(List<Moment> list) {
        return list.get(list.size() - 1);
    }

    int at(int h) {
        return moment(h) ? now().get(h).place : -2;
    }

    int on(int h) {
        return moment(h) ? now().get(h).bearer : -2;
    }

    int weighs(int h) {
        return moment(h) ? now().get(h).weight : -2;
    }

    int tired(int b, int h) {
        return bearerIs(b) && moment(h) ? now().get(h).tired[b] : -2;
    }

    int fruit(int t, int h) {
        return treeIs(t) && moment(h) ? now().get(h).fruit[t] : -2;
    }

    int does(int h) {
        return hour(h) ? now().get(h + 1).deed : -2;
    }

    int drunk(int h) {
        return hour(h) ? now().get(h + 1).drunk ? 1 : 0 : -2;
    }

    int over() {
        return told == null ? -2 : last(now()).end;
    }

    int how() {
        return told == null ? -2 : last(now()).how;
    }

    int eats() {
        return told == null ? -2 : (int) now().stream().skip(1).filter(m -> m.deed == 2).count();
    }

    int carries(int b) {
        return bearerIs(b) ? (int) now().stream().filter(m -> m.carrier == b).count() : -2;
    }

    int fallen() {
        if (told == null) return -2;
        int bits = 0;
        for (int b = 0; b < told.bearers.size(); b++) if (last(now()).fallen[b]) bits |= 1 << b;
        return bits;
    }

    int worst() {
        if (told == null) return -2;
        int found = -1;
        for (int b = told.bearers.size() - 1; b >= 0; b--)
            if (carries(b) > 0 && (found < 0 || carries(b) >= carries(found))) found = b;
        return found;
    }

    int share(int b, int what) {
        if (!bearerIs(b) || what < 0 || what > 1) return -2;
        int all = (int) now().stream().filter(m -> m.carrier != GONE).count();
        return all == 0 ? -1 : (int) reduce(carries(b), all)[what];
    }

    static long[] reduce(long above, long below) {
        for (long g = Math.min(10000, below); g > 1; g--)
            while (above % g == 0 && below % g == 0) {
                above /= g;
                below /= g;
            }
        return new long[] {above, below};
    }

    int comes(int p) {
        if (!place(p)) return -2;
        for (int h = 0; h < told.hours; h++) if (at(h) == p) return h;
        return -1;
    }

    int stays(int p) {
        if (!place(p)) return -2;
        int bits = 0;
        for (int h = 0; h <= told.hours; h++) if (at(h) == p) bits += 1 << h;
        return bits;
    }

    int left(int h) {
        return moment(h) ? Arrays.stream(now().get(h).fruit).sum() : -2;
    }

    int peak(int b) {
        return bearerIs(b) ? now().stream().mapToInt(m -> m.tired[b]).max().orElse(0) : -2;
    }

    int hungry() {
        if (told == null) return -2;
        for (int h = 0; h < told.hours; h++) if (does(h) == 4) return h;
        return -1;
    }

    int ripens(int v) {
        if (!vineIs(v)) return -2;
        for (int h = 0; h < told.hours; h++)
            if (at(h) == told.vines.get(v)[0] && h >= told.vines.get(v)[1]) return h;
        return -1;
    }

    int from(int b) {
        return bearerIs(b) ? last(story(told, Map.of(), b, told.bearers.get(b)[0])).end : -2;
    }

    int best() {
        if (told == null) return -2;
        for (int h = 0; h < told.hours; h++)
            for (int b = 0; b < told.bearers.size(); b++) if (from(b) == h) return b;
        return -1;
    }

    int needs(int b) {
        if (!bearerIs(b)) return -2;
        for (int s = 1; s <= 99; s++) {
            Told t = told.copy();
            t.bearers.get(b)[1] = s;
            if (!last(story(t, acts, 0, t.bearers.get(0)[0])).fallen[b]) return s;
        }
        return -1;
    }

    int drops() {
        if (told == null) return -2;
        for (int w = 1; w <= 20 && !told.bearers.isEmpty(); w++) {
            Told t = told.copy();
            t.weight = w;
            if (last(story(t, Map.of(), 0, t.bearers.get(0)[0])).how == 0) return w;
        }
        return -1;
    }

    // ---- plans ----

    /** The soonest hour (99: none), how many rows, and the least of them. */
    record Best(int hour, int rows, List<Integer> first) { }

    private record Branch(Moment moment, List<Integer> row) { }

    private static final Map<String, Best> SEARCHED = new HashMap<>();

    private Best search(Told t) {
        if (SEARCHED.size() > 5000) SEARCHED.clear();
        StringBuilder key = new StringBuilder();
        key.append(t.places).append(' ').append(t.hours).append(' ').append(t.weight);
        for (List<int[]> list : List.of(t.paths, t.trees, t.vines, t.bearers)) {
            key.append('|');
            for (int[] pair : list) key.append(pair[0]).append(',').append(pair[1]).append(' ');
        }
        key.append('|').append(t.brooks);
        Best best = SEARCHED.get(key.toString());
        if (best == null) {
            best = searchAnew(t);
            SEARCHED.put(key.toString(), best);
        }
        return best;
    }

    private Best searchAnew(Told t) {
        List<Branch> layer = new ArrayList<>();
        layer.add(new Branch(
            beginning(t, 0, t.bearers.isEmpty() ? 0 : t.bearers.get(0)[0]), List.of()));
        List<Integer> every = new ArrayList<>(List.of(0, OFFER, THROW));
        for (int p = 0; p < t.places; p++) every.add(10 + p);
        for (int h = 0; h < t.hours; h++) {
            List<Branch> next = new ArrayList<>();
            List<List<Integer>> thrown = new ArrayList<>();
            for (Branch b : layer) {
                for (int act : every) {
                    Moment m = live(t, b.moment, h, act);
                    if (act != 0 && !m.worked) continue;
                    List<Integer> row = new ArrayList<>(b.row);
                    row.add(act);
                    if (m.how == 1) thrown.add(row);
                    else if (m.bearer != GONE) next.add(new Branch(m, row));
                }
            }
            if (!thrown.isEmpty()) {
                thrown.sort(Model::compareRows);
                return new Best(h, thrown.size(), thrown.get(0));
            }
            layer = next;
            widest = Math.max(widest, layer.size());
        }
        return new Best(99, 0, List.of());
    }

    private static int compareRows(List<Integer> a, List<Integer> b) {
        for (int i = 0; i < a.size(); i++) {
            int c = Integer.compare(a.get(i), b.get(i));
            if (c != 0) return c;
        }
        return 0;
    }

    private static int told(Best b) {
        return b.hour == 99 ? -1 : b.hour;
    }

    int rid() {
        return told == null ? -2 : told(search(told));
    }

    int ways() {
        return told == null ? -2 : search(told).rows;
    }

    int plan(int h) {
        if (!hour(h)) return -2;
        Best b = search(told);
        if (b.hour == 99) return -1;
        return h < b.first.size() ? b.first.get(h) : 0;
    }

    private Best withoutVine(int v) {
        Told t = told.copy();
        t.vines.remove(v);
        return search(t);
    }

    private Best withoutTree(int tree) {
        Told t = told.copy();
        t.trees.remove(tree);
        return search(t);
    }

    private Best withBrook(int p) {
        Told t = told.copy();
        t.brooks.add(p);
        return search(t);
    }

    int wine() {
        if (told == null) return -2;
        int found = -1, latest = search(told).hour;
        for (int v = 0; v < told.vines.size(); v++) {
            int h = withoutVine(v).hour;
            if (h > latest) {
                latest = h;
                found = v;
            }
        }
        return found;
    }

    int bend() {
        if (told == null) return -2;
        int found = -1, soonest = search(told).hour;
        for (int t = 0; t < told.trees.size(); t++) {
            int h = withoutTree(t).hour;
            if (h < soonest) {
                soonest = h;
                found = t;
            }
        }
        return found;
    }

    int bent(int t) {
        return treeIs(t) ? told(withoutTree(t)) : -2;
    }

    int dam(int p) {
        return place(p) ? told(withBrook(p)) : -2;
    }

    int dams() {
        if (told == null) return -2;
        int found = -1, soonest = search(told).hour;
        for (int p = 0; p < told.places; p++) {
            int h = withBrook(p).hour;
            if (h < soonest) {
                soonest = h;
                found = p;
            }
        }
        return found;
    }

    // ---- seen ----

    private int seenError(int s) {
        if (told == null || s < 0 || s > 3) return -2;
        if (slots[s] == null) return -6;
        if (slots[s].length % 2 != 0) return -2;
        for (int i = 0; i < slots[s].length; i += 2) {
            if (slots[s][i] < 0 || slots[s][i] >= told.trees.size()) return -2;
            if (slots[s][i + 1] < 0 || slots[s][i + 1] > 9) return -2;
        }
        return 0;
    }

    /** Rows of: hour, place, fruit left on each tree. */
    private List<int[]> pairs(int s) {
        List<int[]> list = new ArrayList<>();
        for (int p = 0; p < told.places && !told.bearers.isEmpty(); p++) {
            List<Moment> story = story(told, Map.of(), 0, p);
            for (int h = 0; h <= told.hours; h++) {
                boolean fits = true;
                for (int i = 0; i < slots[s].length; i += 2)
                    fits &= story.get(h).fruit[(int) slots[s][i]] == slots[s][i + 1];
                if (!fits) continue;
                int[] pair = new int[2 + told.trees.size()];
                pair[0] = h;
                pair[1] = p;
                System.arraycopy(story.get(h).fruit, 0, pair, 2, told.trees.size());
                list.add(pair);
            }
        }
        return list;
    }

    int fits(int s) {
        int e = seenError(s);
        return e != 0 ? e : pairs(s).size();
    }

    int rode(int s) {
        int e = seenError(s);
        return e != 0 ? e : pairs(s).stream().mapToInt(p -> 1 << p[0]).reduce(0, (a, b) -> a | b);
    }

    int began(int s) {
        int e = seenError(s);
        return e != 0 ? e : pairs(s).stream().mapToInt(p -> 1 << p[1]).reduce(0, (a, b) -> a | b);
    }

    private int worstOf(int s, int tree) {
        Map<Integer, Integer> counts = new HashMap<>();
        for (int[] p : pairs(s)) counts.merge(p[2 + tree], 1, Integer::sum);
        return counts.values().stream().mapToInt(x -> x).max().orElse(0);
    }

    int ask(int s) {
        int e = seenError(s);
        if (e != 0) return e;
        int found = -1, fewest = pairs(s).size();
        for (int t = 0; t < told.trees.size(); t++) {
            if (worstOf(s, t) < fewest) {
                fewest = worstOf(s, t);
                found = t;
            }
        }
        return found;
    }

    int leaves(int s) {
        int e = seenError(s);
        if (e != 0) return e;
        return ask(s) == -1 ? fits(s) : worstOf(s, ask(s));
    }

    // ---- sums ----

    int rests(int worth, int burden) {
        if (worth < 0 || worth > 99 || burden < 0 || burden > 99) return -2;
        // [he eats 0, sleeps 1][it walks 0, lies 1]
        int[][] rider = {{worth, 0}, {1, 1}};
        int[][] ridden = {{-burden, -2}, {-(burden / 2), -1}};
        int bits = 0;
        for (int a = 0; a < 2; a++)
            for (int b = 0; b < 2; b++)
                if (rider[1 - a][b] <= rider[a][b] && ridden[a][1 - b] <= ridden[a][b])
                    bits += 1 << 2 * a + b;
        return bits;
    }

    int signs(int k, int n, int known) {
        if (k < 1 || k > 9 || n < 0 || n > 999 || known < 0 || known > 999) return -2;
        for (int l = 1; l <= 9; l++) {
            long words = Math.round(Math.pow(k, l));
            if (words - Math.min(words, known) >= n) return l;
        }
        return -1;
    }

    int asked(int n, int r, int p, int what) {
        if (n < 1 || n > 99 || r < 0 || r > n || p < 0 || p > 10 || what < 0 || what > 1) return -2;
        long below = 10L * r + (long) p * (n - r);
        return below == 0 ? -1 : (int) reduce(10L * r, below)[what];
    }

    int trust(int n, int p, int q) {
        if (n < 1 || n > 99 || p < 0 || p > 10 || q < 0 || q > 100) return -2;
        int found = 0;
        for (int r = 0; r <= n; r++) {
            long below = 10L * r + (long) p * (n - r);
            if (below == 0 || 1000L * r <= q * below) found = r;
        }
        return found;
    }

    // ---- chances and days ----

    long chance(int what) {
        if (told == null || what < 0 || what > 1) return -2;
        long above = 1, below = 1;
        for (int i = 0; i < eats(); i++) {
            above *= 10 - told.odds;
            below *= 10;
        }
        return above == 0 ? what : reduce(above, below)[what];
    }

    int sure(int p) {
        if (told == null || p < 0 || p > 100) return -2;
        int found = 0;
        long above = 1, below = 1;
        for (int h = 0; h <= told.hours; h++) {
            if (above * 100 >= below * p) found = h;
            if (h < told.hours && does(h) == 2) {
                above *= 10 - told.odds;
                below *= 10;
            }
        }
        return found;
    }

    int drawn(int seed, int what) {
        if (told == null || seed < 0 || seed > 2000000000 || what < 0 || what > 2) return -2;
        long x = seed;
        int draws = 0;
        for (int h = 0; h < told.hours; h++) {
            if (does(h) != 2) continue;
            x = (1103515245L * x + 12345L) % 2147483648L;
            draws++;
            if (x / 65536 % 10 < told.odds) return what == 0 ? h : what == 1 ? 1 : draws;
        }
        return what == 0 ? over() : what == 1 ? 0 : draws;
    }

    int luck(int seed, int n) {
        if (told == null || seed < 0 || seed > 2000000000 || n < 1 || n > 20) return -2;
        int sum = 0;
        List<Moment> story = now();
        for (long s = seed; s < (long) seed + n; s++) {
            long x = s;
            for (int h = 0; h < told.hours; h++) {
                if (story.get(h + 1).deed != 2) continue;
                x = (1103515245L * x + 12345L) % 2147483648L;
                if (x / 65536 % 10 < told.odds) {
                    sum++;
                    break;
                }
            }
        }
        return sum;
    }

    // ---- acts ----

    private int act(int h, int code) {
        if (acts.containsKey(h)) return -5;
        acts.put(h, code);
        order.add(h);
        return now().get(h + 1).worked ? 1 : 0;
    }

    int offer(int h) {
        return hour(h) ? act(h, OFFER) : -2;
    }

    int carry(int h, int p) {
        return hour(h) && place(p) ? act(h, 10 + p) : -2;
    }

    int toss(int h) {
        return hour(h) ? act(h, THROW) : -2;
    }

    int undo() {
        if (told == null) return -2;
        if (order.isEmpty()) return -5;
        acts.remove(order.remove(order.size() - 1));
        return order.size();
    }

    int anew() {
        if (told == null) return -2;
        int were = order.size();
        acts.clear();
        order.clear();
        return were;
    }

    int grow(int t, int n) {
        if (!treeIs(t) || n < 0 || n > 9) return -2;
        if (!order.isEmpty()) return -5;
        int was = told.trees.get(t)[1];
        told.trees.get(t)[1] = n;
        return was;
    }

    // ---- counts, images, slots ----

    int count(int what) {
        int[] counts = {0, 0, 0, 0, 0, 0, 0, 0, order.size(), 0, tape.length(), 0};
        if (told != null) {
            int[] isle = {told.places, told.hours, told.weight, told.odds, told.paths.size(),
                told.trees.size(), told.vines.size(), told.bearers.size()};
            System.arraycopy(isle, 0, counts, 0, 8);
            counts[9] = told.lines;
        }
        for (long[] s : slots) if (s != null) counts[11]++;
        return what < 0 || what > 11 ? -1 : counts[what];
    }

    int image(int k) {
        if (k < 0 || k > 2) return -2;
        keptTold[k] = told == null ? null : told.copy();
        keptActs.set(k, new TreeMap<>(acts));
        keptOrder.set(k, new ArrayList<>(order));
        kept[k] = true;
        return 0;
    }

    int back(int k) {
        if (k < 0 || k > 2) return -2;
        if (!kept[k]) return -6;
        told = keptTold[k] == null ? null : keptTold[k].copy();
        acts = new TreeMap<>(keptActs.get(k));
        order = new ArrayList<>(keptOrder.get(k));
        return 0;
    }

    int row(int s, int width, int n) {
        if (s < 0 || s > 3 || width < 0 || width > 3 || n > 60) return -2;
        if (n < 0) return -3;
        slots[s] = new long[n];
        widths[s] = width;
        return 0;
    }

    int write(int s, int i, long v) {
        if (s < 0 || s > 3) return -2;
        if (slots[s] == null) return -6;
        if (i < 0 || i >= slots[s].length) return -7;
        int drop = 64 - 8 * (1 << widths[s]);
        slots[s][i] = v << drop >> drop;
        return 0;
    }

    int paste(int s, int i, int to, int k, int n) {
        if (s < 0 || s > 3 || to < 0 || to > 3) return -2;
        if (slots[s] == null || slots[to] == null) return -6;
        if (widths[s] != widths[to]) return -8;
        if (i < 0 || k < 0 || n < 0) return -7;
        if ((long) i + n > slots[s].length || (long) k + n > slots[to].length) return -7;
        long[] cut = Arrays.copyOfRange(slots[s], i, i + n);
        System.arraycopy(cut, 0, slots[to], k, n);
        return 0;
    }
}
