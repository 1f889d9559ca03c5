import java.math.BigInteger;
import java.util.ArrayList;
import java.util.Arrays;
import java.util.List;
import java.util.function.IntPredicate;
import java.util.regex.Matcher;
import java.util.regex.Pattern;

/** The document once more, as plainly as can be and by other ways than the program's: whole searches, no short cuts. */
final class Oracle {
    private static final int NONE = -1, BAD = -2, NOT = -3, FULL = -4;
    private static final String WHEEL = "[hsb][01][0-9][a-h]{1,5}";
    private static final Pattern WELL = Pattern.compile(WHEEL + "(;" + WHEEL + "){0,7}");
    private static final Pattern GOES_ON =
        Pattern.compile("(" + WHEEL + ";){0,7}([hsb]([01]([0-9][a-h]{0,5})?)?)?|(" + WHEEL + ";){8}");
    private static final Pattern FIGURES = Pattern.compile("[0-9]*");

    private final StringBuilder[] texts = {new StringBuilder(), new StringBuilder()};
    private final int[] room = {71, 30};
    private final List<int[]> turnings = new ArrayList<>();
    private final List<int[]> knocks = new ArrayList<>();
    private final List<int[]> listened = new ArrayList<>();
    private final Object[] sheets = new Object[4];
    private int time = 8;
    private int shrill = 7;
    private int finding = 0;

    /** A wheel, with what is done to it. */
    private static final class Told {
        char sort;
        int night;
        String sounds;
        int[] warm;
        List<int[]> turnings;
        List<int[]> knocks;
        int number;
    }

    /** A wheel on a night. */
    private record Night(int age, int moment, int letter, int state) {
    }

    int type(int text, int b) {
        if (text < 0 || text > 1 || b < 0 || b > 255) return BAD;
        if (texts[text].length() == room[text]) return FULL;
        return texts[text].append((char) b).length();
    }

    int wipe(int text) {
        if (text < 0 || text > 1) return BAD;
        int n = texts[text].length();
        texts[text].setLength(0);
        return n;
    }

    int undo(int text) {
        if (text < 0 || text > 1) return BAD;
        if (texts[text].length() == 0) return NOT;
        texts[text].setLength(texts[text].length() - 1);
        return texts[text].length();
    }

    int fault(int text) {
        if (text < 0 || text > 1) return BAD;
        String t = texts[text].toString();
        Pattern goesOn = text == 0 ? GOES_ON : FIGURES;
        for (int n = 1; n <= t.length(); n++) {
            if (!goesOn.matcher(t.substring(0, n)).matches()) return n - 1;
        }
        boolean ended = text == 1 || t.isEmpty() || WELL.matcher(t).matches();
        return ended ? NONE : t.length();
    }

    private List<Told> wheels() {
        List<Told> all = new ArrayList<>();
        if (fault(0) != NONE) return all;
        Matcher m = Pattern.compile("([hsb])([0-9]+)([a-h]+)").matcher(texts[0]);
        while (m.find()) {
            Told told = new Told();
            told.sort = m.group(1).charAt(0);
            told.night = Integer.parseInt(m.group(2));
            told.sounds = m.group(3);
            told.warm = caveRow();
            told.turnings = new ArrayList<>(turnings);
            told.knocks = knocks;
            told.number = all.size();
            all.add(told);
        }
        return all;
    }

    private int[] caveRow() {
        int[] row = new int[30];
        Arrays.fill(row, 5);
        if (fault(1) == NONE) {
            for (int i = 0; i < texts[1].length(); i++) row[i] = Character.digit(texts[1].charAt(i), 10);
        }
        return row;
    }

    private boolean no(int wheel) {
        return wheel < 0 || wheel >= wheels().size();
    }

    private static boolean out(int v, int least, int greatest) {
        return v < least || v > greatest;
    }

    private static boolean marked(List<int[]> marks, int night, int wheel) {
        return marks.stream().anyMatch(m -> m[0] == night && m[1] == wheel);
    }

    private Night[] nights(Told w) {
        Night[] all = new Night[30];
        int age = 0;
        boolean gone = false;
        for (int n = 0; n < 30; n++) {
            if (n < w.night) {
                all[n] = new Night(0, NONE, NONE, 0);
                continue;
            }
            if (gone) {
                all[n] = new Night(age, NONE, NONE, 4);
                continue;
            }
            boolean now = marked(w.turnings, n, w.number);
            boolean ahead = marked(w.turnings, n - 1, w.number);
            switch (w.sort) {
                case 'h' -> age += now || ahead ? w.warm[n] : w.warm[n] / 2;
                case 's' -> age += now ? 0 : w.warm[n] + w.warm[n] / 2;
                default -> age += w.warm[n] + 1;
            }
            if (marked(w.knocks, n, w.number)) age += 2;
            int moment = age / time;
            if (moment >= w.sounds.length()) {
                all[n] = new Night(age, NONE, NONE, 2);
            } else {
                int letter = w.sounds.charAt(moment) - 'a';
                gone = letter >= shrill && w.sort != 'b';
                all[n] = new Night(age, moment, letter, gone ? 3 : 1);
            }
        }
        return all;
    }

    private static int heardOn(Night[] nights) {
        return (int) Arrays.stream(nights).filter(n -> n.letter() != NONE).count();
    }

    int wheel(int wheel, int what) {
        if (no(wheel) || out(what, 0, 7)) return BAD;
        Told w = wheels().get(wheel);
        if (what == 0) return "hsb".indexOf(w.sort);
        if (what == 1) return w.night;
        if (what == 2) return w.sounds.length();
        return what - 3 < w.sounds.length() ? w.sounds.charAt(what - 3) - 'a' : NONE;
    }

    int warm(int night) {
        return out(night, 0, 29) ? BAD : caveRow()[night];
    }

    int set(int what, int v) {
        if (out(what, 0, 1) || what == 0 && out(v, 1, 20) || what == 1 && out(v, 0, 8)) return BAD;
        int was = what == 0 ? time : shrill;
        if (what == 0) time = v;
        else shrill = v;
        return was;
    }

    private int more(List<int[]> marks, int most, int... mark) {
        if (out(mark[0], 0, 29) || out(mark[1], 0, 7)) return BAD;
        if (marks.size() == most) return FULL;
        marks.add(mark);
        return marks.size();
    }

    int turning(int night, int wheel) {
        return more(turnings, 8, night, wheel);
    }

    int knock(int night, int wheel) {
        return more(knocks, 4, night, wheel);
    }

    int back(int what) {
        if (out(what, 0, 1)) return BAD;
        List<int[]> marks = what == 0 ? turnings : knocks;
        if (marks.isEmpty()) return NOT;
        marks.remove(marks.size() - 1);
        return marks.size();
    }

    int read(int s) {
        if (out(s, 0, 3)) return BAD;
        if (sheets[s] == null) return find(1);
        int n = 0;
        while (2 * n + 1 < size(s) && turning(item(s, 2 * n), item(s, 2 * n + 1)) > 0) n++;
        return n;
    }

    int at(int night, int wheel, int what) {
        if (out(night, 0, 29) || no(wheel) || out(what, 0, 2)) return BAD;
        Night n = nights(wheels().get(wheel))[night];
        return what == 0 ? n.age() : what == 1 ? n.letter() : n.state();
    }

    int longs(int wheel) {
        return no(wheel) ? BAD : heardOn(nights(wheels().get(wheel)));
    }

    int scream(int what) {
        if (out(what, 0, 1)) return BAD;
        for (int n = 0; n < 30; n++) {
            for (Told w : wheels()) {
                int letter = nights(w)[n].letter();
                if (letter != NONE && letter >= shrill) return what == 0 ? n : w.number;
            }
        }
        return NONE;
    }

    private int chorus(int letter, int night) {
        return (int) wheels().stream().filter(w -> nights(w)[night].letter() == letter).count();
    }

    int chord(int letter, int what) {
        if (out(letter, 0, 7) || out(what, 0, 1)) return BAD;
        for (int many = 8; many > 0; many--) {
            for (int n = 0; n < 30; n++) {
                if (chorus(letter, n) == many) return what == 0 ? n : many;
            }
        }
        return NONE;
    }

    private static int bits(int below, IntPredicate is) {
        int all = 0;
        for (int i = 0; i < below; i++) all += is.test(i) ? 1 << i : 0;
        return all;
    }

    int hush() {
        List<Night[]> all = wheels().stream().map(this::nights).toList();
        return bits(30, n -> all.stream().allMatch(w -> w[n].letter() == NONE));
    }

    private boolean ripens(int wheel, int night, int... more) {
        Told w = wheels().get(wheel);
        for (int n : more) w.turnings.add(new int[] {n, wheel});
        return nights(w)[night].moment() == w.sounds.length() - 1;
    }

    int ripe(int wheel, int night, int i) {
        if (no(wheel) || out(night, 0, 29) || out(i, -1, 1)) return BAD;
        if (ripens(wheel, night)) return i == NONE ? 0 : NONE;
        for (int a = 0; a < 30; a++) {
            if (ripens(wheel, night, a)) return i == NONE ? 1 : i == 0 ? a : NONE;
        }
        for (int a = 0; a < 30; a++) {
            for (int b = a + 1; b < 30; b++) {
                if (ripens(wheel, night, a, b)) return i == NONE ? 2 : i == 0 ? a : b;
            }
        }
        return NONE;
    }

    int cold(int wheel, int what) {
        if (no(wheel) || out(what, 0, 1)) return BAD;
        int[] many = new int[30];
        for (int n = 0; n < 30; n++) {
            Told w = wheels().get(wheel);
            w.warm[n] = 0;
            many[n] = heardOn(nights(w));
        }
        int most = Arrays.stream(many).max().getAsInt();
        int which = 0;
        while (many[which] != most) which++;
        return what == 0 ? which : most;
    }

    int come(int wheel, int what) {
        if (no(wheel) || out(what, 0, 1)) return BAD;
        int[] moments = new int[20];
        for (int n = 0; n < 20; n++) {
            Told w = wheels().get(wheel);
            w.night = n;
            moments[n] = nights(w)[29].moment();
        }
        int greatest = Arrays.stream(moments).max().getAsInt();
        if (greatest == NONE) return NONE;
        int which = 0;
        while (moments[which] != greatest) which++;
        return what == 0 ? which : greatest;
    }

    /** Wheels take nights one by one, each by the chain of changes that brings most (Bellman and Ford). */
    int sale() {
        List<Night[]> all = wheels().stream().map(this::nights).toList();
        int w = all.size();
        int[] buyer = new int[30];
        Arrays.fill(buyer, NONE);
        int total = 0;
        for (int k = 0; k < w; k++) {
            int[] best = new int[30];
            int[] by = new int[30];
            int[] from = new int[30];
            for (int n = 0; n < 30; n++) {
                best[n] = all.get(k)[n].moment() + 1;
                by[n] = k;
                from[n] = NONE;
            }
            for (int round = 0; round < 40; round++) {
                for (int n = 0; n < 30; n++) {
                    if (buyer[n] == NONE) continue;
                    for (int m = 0; m < 30; m++) {
                        int v = best[n] - (all.get(buyer[n])[n].moment() + 1) + all.get(buyer[n])[m].moment() + 1;
                        if (m != n && v > best[m]) {
                            best[m] = v;
                            by[m] = buyer[n];
                            from[m] = n;
                        }
                    }
                }
            }
            int end = NONE;
            for (int n = 0; n < 30; n++) {
                if (buyer[n] == NONE && (end == NONE || best[n] > best[end])) end = n;
            }
            total += best[end];
            for (int n = end; n != NONE; n = from[n]) buyer[n] = by[n];
        }
        return total;
    }

    int listen(int night, int wheel, int letter) {
        return out(letter, 0, 8) ? BAD : more(listened, 8, night, wheel, letter);
    }

    int forget() {
        int n = listened.size();
        listened.clear();
        return n;
    }

    private boolean comesOut(List<Told> all) {
        for (int[] l : listened) {
            if (l[1] >= all.size()) return false;
            int letter = nights(all.get(l[1]))[l[0]].letter();
            if (letter != (l[2] == 8 ? NONE : l[2])) return false;
        }
        return true;
    }

    int never() {
        return bits(turnings.size(), k -> {
            List<Told> all = wheels();
            for (Told w : all) w.turnings.remove(k);
            return comesOut(all);
        });
    }

    int was(int wheel, int what) {
        if (no(wheel) || out(what, 0, 1)) return BAD;
        return bits(what == 0 ? 20 : 3, v -> {
            List<Told> all = wheels();
            if (what == 0) all.get(wheel).night = v;
            else all.get(wheel).sort = "hsb".charAt(v);
            return comesOut(all);
        });
    }

    int ask(int wheel) {
        if (no(wheel)) return BAD;
        int from = was(wheel, 0);
        List<Night[]> ways = new ArrayList<>();
        for (int f = 0; f < 20; f++) {
            Told w = wheels().get(wheel);
            w.night = f;
            if ((from >> f & 1) == 1) ways.add(nights(w));
        }
        int best = NONE;
        long least = Long.MAX_VALUE;
        for (int n = 0; n < 30; n++) {
            int night = n;
            long greatest = 0;
            for (Night[] way : ways) {
                greatest = Math.max(greatest, ways.stream().filter(o -> o[night].letter() == way[night].letter()).count());
            }
            if (greatest < least) {
                least = greatest;
                best = n;
            }
        }
        return best;
    }

    long frost(int c, int last, int wheel, int night, int what) {
        if (out(c, 0, 16) || out(last, 0, 9) || no(wheel) || out(night, 0, 29) || out(what, 0, 1)) return Long.MIN_VALUE + 2;
        BigInteger above = BigInteger.ZERO;
        for (int cold = 0; cold < 1 << (last + 1); cold++) {
            Told w = wheels().get(wheel);
            int frosts = Integer.bitCount(cold);
            for (int n = 0; n <= last; n++) {
                if ((cold >> n & 1) == 1) w.warm[n] = 0;
            }
            if (nights(w)[night].letter() != NONE) {
                above = above.add(BigInteger.valueOf(c).pow(frosts).multiply(BigInteger.valueOf(16 - c).pow(last + 1 - frosts)));
            }
        }
        BigInteger below = BigInteger.valueOf(16).pow(last + 1);
        BigInteger both = above.gcd(below);
        return (what == 0 ? above : below).divide(both).longValueExact();
    }

    int summer(int seed, int n, int what) {
        if (out(n, 0, 30) || out(what, 0, 1)) return BAD;
        int[] row = new int[30];
        Arrays.fill(row, 5);
        BigInteger now = BigInteger.valueOf(seed);
        for (int i = 0; i < n; i++) {
            now = now.multiply(BigInteger.valueOf(1103515245)).add(BigInteger.valueOf(12345)).mod(BigInteger.ONE.shiftLeft(32));
            row[i] = now.shiftRight(16).mod(BigInteger.TEN).intValue();
        }
        List<Night[]> all = new ArrayList<>();
        for (Told w : wheels()) {
            w.warm = row;
            all.add(nights(w));
        }
        if (what == 1) return eaten(all);
        if (all.isEmpty()) return 0;
        return Integer.bitCount(bits(30, k -> all.stream().allMatch(w -> w[k].letter() != NONE)));
    }

    private static int eaten(List<Night[]> all) {
        return (int) all.stream().filter(w -> Arrays.stream(w).anyMatch(n -> n.state() == 3)).count();
    }

    private int find(int number) {
        finding = number;
        return -10 - number;
    }

    private int size(int s) {
        return java.lang.reflect.Array.getLength(sheets[s]);
    }

    private int item(int s, int i) {
        return java.lang.reflect.Array.getInt(sheets[s], i);
    }

    private void become(int s, int i, int v) {
        if (sheets[s] instanceof byte[] row) row[i] = (byte) v;
        else if (sheets[s] instanceof short[] row) row[i] = (short) v;
        else ((int[]) sheets[s])[i] = v;
    }

    private static Class<?> form(int form) {
        return form == 0 ? byte[].class : form == 1 ? short[].class : int[].class;
    }

    int sheet(int s, int form, int n) {
        if (out(s, 0, 3) || out(form, 0, 2) || n > 60) return BAD;
        if (n < 0) return find(5);
        sheets[s] = java.lang.reflect.Array.newInstance(form(form).getComponentType(), n);
        return n;
    }

    int lose(int s) {
        if (out(s, 0, 3)) return BAD;
        if (sheets[s] == null) return find(1);
        int n = size(s);
        sheets[s] = null;
        return n;
    }

    int put(int s, int form, int i, int v) {
        if (out(s, 0, 3) || out(form, 0, 2)) return BAD;
        if (sheets[s] == null) return find(1);
        if (sheets[s].getClass() != form(form)) return find(3);
        if (out(i, 0, size(s) - 1)) return find(2);
        become(s, i, v);
        return 1;
    }

    int get(int s, int form, int i) {
        if (out(s, 0, 3) || out(form, 0, 2)) return Integer.MIN_VALUE;
        int number = sheets[s] == null ? 1 : sheets[s].getClass() != form(form) ? 3 : out(i, 0, size(s) - 1) ? 2 : 0;
        if (number == 0) return item(s, i);
        find(number);
        return Integer.MIN_VALUE;
    }

    int copy(int s, int i, int t, int j, int n) {
        if (out(s, 0, 3) || out(t, 0, 3)) return BAD;
        if (sheets[s] == null || sheets[t] == null) return find(1);
        if (sheets[s].getClass() != sheets[t].getClass()) return find(4);
        try {
            System.arraycopy(sheets[s], i, sheets[t], j, n);
        } catch (IndexOutOfBoundsException e) {
            return find(2);
        }
        return 1;
    }

    int write(int wheel, int s) {
        if (no(wheel) || out(s, 0, 3)) return BAD;
        if (sheets[s] == null) return find(1);
        int n = 0;
        for (Night night : nights(wheels().get(wheel))) {
            if (n < size(s)) become(s, n++, night.letter());
        }
        return n;
    }

    int count(int what) {
        if (out(what, 0, 8)) return BAD;
        int[] all = {wheels().size(), fault(1) == NONE ? texts[1].length() : 0, texts[0].length(), texts[1].length(), turnings.size(),
            knocks.size(), eaten(wheels().stream().map(this::nights).toList()), listened.size(), finding};
        return all[what];
    }

    long digest() {
        List<Long> all = new ArrayList<>();
        for (int i = 0; i < 8; i++) all.add((long) count(i));
        for (int i = 0; i < 2; i++) all.add((long) fault(i));
        for (int n : new int[] {0, 9, 19, 29}) all.add((long) warm(n));
        for (int w = 0; w < wheels().size(); w++) {
            for (int i = 0; i < 8; i++) all.add((long) wheel(w, i));
            for (int n : new int[] {0, 5, 12, 29}) {
                for (int i = 0; i < 3; i++) all.add((long) at(n, w, i));
            }
            all.add((long) longs(w));
            all.add((long) ripe(w, 12, NONE));
            all.add((long) ripe(w, 12, 0));
            for (int i = 0; i < 2; i++) all.add((long) cold(w, i));
            for (int i = 0; i < 2; i++) all.add((long) come(w, i));
            for (int i = 0; i < 2; i++) all.add((long) was(w, i));
            all.add((long) ask(w));
            for (int i = 0; i < 2; i++) all.add(frost(5, 5, w, 12, i));
        }
        for (int i = 0; i < 2; i++) all.add((long) scream(i));
        for (int l = 0; l < 8; l++) {
            for (int i = 0; i < 2; i++) all.add((long) chord(l, i));
        }
        all.add((long) hush());
        all.add((long) sale());
        all.add((long) never());
        for (int i = 0; i < 2; i++) all.add((long) summer(7, 20, i));
        long h = 17;
        for (long v : all) h = 31 * h + v;
        return h;
    }
}
