import java.util.ArrayDeque;
import java.util.ArrayList;
import java.util.Arrays;
import java.util.HashSet;
import java.util.List;
import java.util.Set;
import java.util.regex.Matcher;
import java.util.regex.Pattern;

/**
 * A second ShowRights, written from the document's words alone and as slow as they are: sets of points, patterns, whole
 * copies of what there was. It shares no code and no way of counting with the first.
 */
final class Model {
    private static final int BAD = -1, NO = -2, FULL = -3, NONE = -4;
    private static final Pattern ITEM = Pattern.compile("([toh])(\\d{1,2}(?:,\\d{1,2})*);");
    private static final String AT_FIRST = "t2,48;o3,1,1,2,10,1,40;o3,3,2,20,40,0,25;o6,1,2,30,48,1,30;"
            + "o1,2,12,8,51,0,9;o32,15,15,2,48,0,60;o35,1,4,15,20,0,12;h1,0,12;h2,0,20;";

    /** What a text tells; fault is NONE or the place. */
    private static final class Told {
        int fault = NONE;
        int[] term = {0, 51};
        final List<int[]> offers = new ArrayList<>();
        final List<int[]> holds = new ArrayList<>();
    }

    private String text = "";
    private Told told = readText(AT_FIRST);
    private int[] moved = new int[10];
    private boolean[] signed = new boolean[10];
    private final ArrayDeque<Object[]> past = new ArrayDeque<>();

    // ---- told

    private static Told readText(String text) {
        Told told = new Told();
        int place = 0;
        while (place < text.length()) {
            Matcher matcher = ITEM.matcher(text).region(place, text.length());
            if (!matcher.lookingAt() || !takeItem(told, matcher.group(1), matcher.group(2).split(","))) {
                told.fault = place;
                return told;
            }
            place = matcher.end();
        }
        return told;
    }

    private static boolean in(int number, int low, int high) {
        return low <= number && number <= high;
    }

    private static boolean takeItem(Told told, String kind, String[] words) {
        int[] n = new int[words.length];
        for (int i = 0; i < n.length; i++) n[i] = Integer.parseInt(words[i]);
        if (kind.equals("t")) {
            if (n.length != 2 || !in(n[0], 0, 51) || !in(n[1], 0, 51) || n[0] > n[1]) return false;
            told.term = n;
            return true;
        }
        if (kind.equals("h")) {
            if (n.length != 3 || !in(n[0], 0, 3) || !in(n[1], 0, 3) || n[0] == n[1] || !in(n[2], 1, 51)) return false;
            told.holds.add(n);
            return told.holds.size() <= 4;
        }
        if (n.length != 7 || !in(n[0], 1, 63) || !in(n[1], 1, 15) || !in(n[2], 1, 15)) return false;
        if (!in(n[3], 0, 51) || !in(n[4], 0, 51) || n[3] > n[4] || !in(n[5], 0, 1) || !in(n[6], 1, 99)) return false;
        told.offers.add(n);
        return told.offers.size() <= 10;
    }

    int write(int letter) {
        if (!in(letter, 32, 126)) return BAD;
        if (text.length() == 200) return FULL;
        text += (char) letter;
        return text.length();
    }

    int wipe() {
        int was = text.length();
        text = "";
        return was;
    }

    int fault() {
        return readText(text).fault;
    }

    int lay() {
        Told next = readText(text);
        if (next.fault != NONE || next.offers.isEmpty()) return NO;
        told = next;
        moved = new int[10];
        signed = new boolean[10];
        past.clear();
        return offers();
    }

    // ---- what the words mean

    private int offers() {
        return told.offers.size();
    }

    private boolean noOffer(int i) {
        return !in(i, 0, offers() - 1);
    }

    private static boolean bit(int set, int i) {
        return (set & (int) Math.pow(2, i)) != 0;
    }

    private int first(int i) {
        return told.offers.get(i)[3] + moved[i];
    }

    private int last(int i) {
        return told.offers.get(i)[4] + moved[i];
    }

    private boolean has(int i, int land, int tongue, int means, int week) {
        int[] n = told.offers.get(i);
        return bit(n[0], land) && bit(n[1], tongue) && bit(n[2], means) && in(week, first(i), last(i));
    }

    private Set<Integer> pointsOf(int i) {
        Set<Integer> points = new HashSet<>();
        for (int land = 0; land < 6; land++)
            for (int tongue = 0; tongue < 4; tongue++)
                for (int means = 0; means < 4; means++)
                    for (int week = 0; week < 52; week++)
                        if (has(i, land, tongue, means, week)) points.add(((land * 10 + tongue) * 10 + means) * 100 + week);
        return points;
    }

    private int shared(int i, int j) {
        Set<Integer> points = pointsOf(i);
        points.retainAll(pointsOf(j));
        return points.size();
    }

    private boolean clashing(int i, int j) {
        return (told.offers.get(i)[5] == 1 || told.offers.get(j)[5] == 1) && shared(i, j) > 0;
    }

    private int beginWith(boolean[] set, int land, int means) {
        int week = 99;
        for (int i = 0; i < offers(); i++) {
            if (set[i] && bit(told.offers.get(i)[0], land) && bit(told.offers.get(i)[2], means)) {
                week = Math.min(week, first(i));
            }
        }
        return week == 99 ? NONE : week;
    }

    private boolean isKept(boolean[] set, int[] hold, int land) {
        int a = beginWith(set, land, hold[0]);
        int b = beginWith(set, land, hold[1]);
        return b == NONE || a == NONE || a >= b + hold[2];
    }

    private boolean allKept(boolean[] set) {
        for (int[] hold : told.holds)
            for (int land = 0; land < 6; land++)
                if (!isKept(set, hold, land)) return false;
        return true;
    }

    private boolean inTerm(int i) {
        for (int week = first(i); week <= last(i); week++) if (!in(week, told.term[0], told.term[1])) return false;
        return true;
    }

    private int against(int i) {
        if (signed[i]) return 1;
        if (!inTerm(i)) return 2;
        if (clash(i) != NONE) return 3;
        boolean[] with = signed.clone();
        with[i] = true;
        return allKept(with) ? 0 : 4;
    }

    private int howMany() {
        int sum = 0;
        for (boolean one : signed) if (one) sum++;
        return sum;
    }

    private void keepPast() {
        past.addLast(new Object[] {signed.clone(), moved.clone()});
        if (past.size() > 6) past.removeFirst();
    }

    // ---- signed

    int sign(int i) {
        if (noOffer(i)) return BAD;
        if (against(i) != 0) return NO;
        keepPast();
        signed[i] = true;
        return howMany();
    }

    int why(int i) {
        return noOffer(i) ? BAD : against(i);
    }

    int clash(int i) {
        if (noOffer(i)) return BAD;
        for (int j = 0; j < offers(); j++) if (signed[j] && j != i && clashing(i, j)) return j;
        return NONE;
    }

    int drop(int i) {
        if (noOffer(i)) return BAD;
        if (!signed[i]) return NO;
        keepPast();
        signed[i] = false;
        return howMany();
    }

    int move(int i, int d) {
        if (noOffer(i) || !in(d, 0, 51)) return BAD;
        if (signed[i] || moved[i] == d || told.offers.get(i)[4] + d > 51) return NO;
        keepPast();
        int was = moved[i];
        moved[i] = d;
        return was;
    }

    int soonest(int i) {
        if (noOffer(i)) return BAD;
        if (signed[i]) return NO;
        int[] were = moved.clone();
        int found = NONE;
        for (int d = 51; d >= were[i]; d--) {
            moved[i] = d;
            if (last(i) <= 51 && against(i) == 0) found = d;
        }
        moved = were;
        return found;
    }

    int undo() {
        if (past.isEmpty()) return NO;
        Object[] was = past.removeLast();
        signed = (boolean[]) was[0];
        moved = (int[]) was[1];
        return past.size();
    }

    // ---- looked at

    int offer(int i, int what) {
        if (noOffer(i) || !in(what, 0, 8)) return BAD;
        if (what == 3) return first(i);
        if (what == 4) return last(i);
        if (what == 7) return signed[i] ? 1 : 0;
        if (what == 8) return pointsOf(i).size();
        return told.offers.get(i)[what];
    }

    int common(int i, int j) {
        return noOffer(i) || noOffer(j) || i == j ? BAD : shared(i, j);
    }

    int begin(int land, int means) {
        return in(land, 0, 5) && in(means, 0, 3) ? beginWith(signed, land, means) : BAD;
    }

    int broken(int h) {
        if (!in(h, 0, told.holds.size() - 1)) return BAD;
        int lands = 0;
        for (int land = 5; land >= 0; land--) lands = lands * 2 + (isKept(signed, told.holds.get(h), land) ? 0 : 1);
        return lands;
    }

    private int sold(int land, int tongue, int means, int week) {
        int sum = 0;
        for (int i = 0; i < offers(); i++) if (signed[i] && has(i, land, tongue, means, week)) sum++;
        return sum;
    }

    private boolean alone(int land, int tongue, int means, int week) {
        for (int i = 0; i < offers(); i++) {
            if (signed[i] && told.offers.get(i)[5] == 1 && has(i, land, tongue, means, week)) return true;
        }
        return false;
    }

    private static boolean noCell(int land, int tongue, int means) {
        return !in(land, 0, 5) || !in(tongue, 0, 3) || !in(means, 0, 3);
    }

    int point(int land, int tongue, int means, int week, int what) {
        if (noCell(land, tongue, means) || !in(week, told.term[0], told.term[1]) || !in(what, 0, 1)) return BAD;
        if (what == 0) return sold(land, tongue, means, week);
        return alone(land, tongue, means, week) ? 1 : 0;
    }

    int points(int what) {
        if (!in(what, 0, 4)) return BAD;
        int[] sums = new int[5];
        for (int land = 0; land < 6; land++)
            for (int tongue = 0; tongue < 4; tongue++)
                for (int means = 0; means < 4; means++)
                    for (int week = told.term[0]; week <= told.term[1]; week++) {
                        int times = sold(land, tongue, means, week);
                        sums[0]++;
                        if (times >= 1) sums[1]++;
                        if (times >= 2) sums[2]++;
                        if (alone(land, tongue, means, week)) sums[3]++;
                        if (times == 0) sums[4]++;
                    }
        return sums[what];
    }

    private List<int[]> windows(int land, int tongue, int means) {
        List<int[]> windows = new ArrayList<>();
        int[] open = null;
        for (int week = told.term[0]; week <= told.term[1]; week++) {
            if (sold(land, tongue, means, week) > 0) {
                open = null;
            } else if (open == null) {
                open = new int[] {week, week};
                windows.add(open);
            } else {
                open[1] = week;
            }
        }
        return windows;
    }

    int window(int land, int tongue, int means, int k, int what) {
        if (noCell(land, tongue, means) || k < -1 || !in(what, 0, 1)) return BAD;
        List<int[]> windows = windows(land, tongue, means);
        if (k == -1) return windows.size();
        return k >= windows.size() ? NONE : windows.get(k)[what];
    }

    int longest(int what) {
        if (!in(what, 0, 4)) return BAD;
        int[] best = {0, 0, 0, 0, 0};
        for (int land = 0; land < 6; land++)
            for (int tongue = 0; tongue < 4; tongue++)
                for (int means = 0; means < 4; means++)
                    for (int[] window : windows(land, tongue, means)) {
                        int weeks = window[1] - window[0] + 1;
                        if (weeks > best[0]) best = new int[] {weeks, land, tongue, means, window[0]};
                    }
        return best[0] == 0 ? NONE : best[what];
    }

    // ---- the best

    /** PRICES, OFFERS, bits of the best set; all sets are looked at from the last to the first. */
    private int[] bestOfAll() {
        boolean[][] clashes = new boolean[offers()][offers()];
        for (int i = 0; i < offers(); i++) for (int j = 0; j < i; j++) clashes[i][j] = clashing(i, j);
        int[] best = null;
        for (int set = (1 << offers()) - 1; set >= 0; set--) {
            int[] now = {0, 0, set};
            boolean[] members = new boolean[10];
            boolean fits = true;
            for (int i = 0; i < offers(); i++) {
                if (!bit(set, i)) continue;
                members[i] = true;
                now[0] += told.offers.get(i)[6];
                now[1]++;
                fits &= inTerm(i);
                for (int j = 0; j < i; j++) if (members[j] && clashes[i][j]) fits = false;
            }
            if (fits && allKept(members) && (best == null || isBetter(now, best))) best = now;
        }
        return best;
    }

    private static boolean isBetter(int[] now, int[] than) {
        if (now[0] != than[0]) return now[0] > than[0];
        if (now[1] != than[1]) return now[1] < than[1];
        return now[2] < than[2];
    }

    int best(int what) {
        if (what == 0) return bestOfAll()[0];
        return what == 1 ? bestOfAll()[2] : BAD;
    }

    int take() {
        int set = bestOfAll()[2];
        keepPast();
        Arrays.fill(signed, false);
        for (int i = 0; i < 10; i++) signed[i] = bit(set, i);
        return howMany();
    }

    int count(int what) {
        int sum = 0;
        if (what == 5) for (int i = 0; i < offers(); i++) sum += signed[i] ? told.offers.get(i)[6] : 0;
        if (what == 6) for (int i = 0; i < offers(); i++) for (int j = 0; j < i; j++) sum += clashing(i, j) ? 1 : 0;
        int[] answers = {offers(), told.holds.size(), told.term[0], told.term[1], howMany(), sum, sum, past.size(), text.length()};
        return in(what, 0, 8) ? answers[what] : BAD;
    }
}
