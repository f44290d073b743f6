import java.math.BigInteger;
import java.util.ArrayList;
import java.util.HashMap;
import java.util.HashSet;
import java.util.List;
import java.util.Map;
import java.util.Set;
import java.util.TreeSet;
import java.util.regex.Matcher;
import java.util.regex.Pattern;

/**
 * The document told a second time, naively and by other ways than the class goes, for the tests to
 * compare with: texts by patterns, rounds and cups by trying all, rows by playing, chances by products.
 */
final class Model {
    static final class Nut {
        int hard, cracks, score, child;
        Set<Integer> in = new TreeSet<>();

        Nut copy() {
            Nut copy = new Nut();
            copy.hard = hard;
            copy.cracks = cracks;
            copy.score = score;
            copy.child = child;
            copy.in.addAll(in);
            return copy;
        }

        boolean broken() {
            return cracks > 2;
        }

        int force() {
            return Math.max(0, hard - 7 * cracks);
        }
    }

    static final class World {
        List<Nut> nuts = new ArrayList<>();
        int day;
        List<int[]> sights = new ArrayList<>();

        World copy() {
            World copy = new World();
            for (Nut nut : nuts) {
                copy.nuts.add(nut.copy());
            }
            copy.day = day;
            copy.sights.addAll(sights);
            return copy;
        }
    }

    World now = new World();
    StringBuilder pad = new StringBuilder();
    World[] images = new World[2];

    // what the last telling of the days found
    World told;
    int acts, badAct, why, breaks, firstAct, firstNut;

    Model() {
        for (int i = 0; i < 10; i++) {
            now.nuts.add(one(i, 10 * i + 5, 0, i % 4));
        }
    }

    private static Nut one(int number, int hard, int cracks, int child) {
        Nut nut = new Nut();
        nut.hard = hard;
        nut.cracks = cracks;
        nut.child = child;
        nut.score = 1;
        nut.in.add(number);
        return nut;
    }

    private static boolean out(int number, int least, int greatest) {
        return number < least || number > greatest;
    }

    private static int bits(Iterable<Integer> set) {
        int sum = 0;
        for (int element : set) {
            sum += (int) Math.pow(2, element);
        }
        return sum;
    }

    int nut(int nut, int hard, int cracks, int child) {
        if (out(nut, 0, 9) || out(child, 0, 3)) return -1;
        if (out(hard, 1, 99) || out(cracks, 0, 2)) return -2;
        int old = now.nuts.get(nut).score;
        now.nuts.set(nut, one(nut, hard, cracks, child));
        return old;
    }

    int say(int sign) {
        if (out(sign, 33, 126)) return -2;
        if (pad.length() == 60) return -4;
        pad.append((char) sign);
        return pad.length();
    }

    int wipe() {
        int n = pad.length();
        pad = new StringBuilder();
        return n;
    }

    private static final Pattern ACT = Pattern.compile("[A-J](>[A-J]|\\*|[0-3])|\\.");
    private static final Pattern BEGUN = Pattern.compile("([A-J](>[A-J]|\\*|[0-3])|\\.)*([A-J]>?)?");
    private static final Pattern WHOLE = Pattern.compile("([A-J](>[A-J]|\\*|[0-3])|\\.)*");

    int fault() {
        if (WHOLE.matcher(pad).matches()) return -6;
        // the first sign with which the text can no more become days
        for (int n = 1; n <= pad.length(); n++) {
            if (!BEGUN.matcher(pad.substring(0, n)).matches()) return n - 1;
        }
        return pad.length();
    }

    /** Answers the number that broke, -6 if none, or -100 less the reason. */
    private static int act(World world, String act) {
        if (act.equals(".")) {
            if (world.day == 99) return -105;
            world.day++;
            for (Nut nut : world.nuts) {
                if (!nut.broken()) nut.hard = Math.min(99, nut.hard + 1);
            }
            return -6;
        }
        int number = act.charAt(0) - 'A';
        Nut nut = world.nuts.get(number);
        if (act.charAt(1) == '>') {
            int otherNumber = act.charAt(2) - 'A';
            Nut other = world.nuts.get(otherNumber);
            if (nut.broken() || other.broken()) return -101;
            if (nut == other || nut.child == other.child) return -102;
            return blow(nut, other) ? (nut.broken() ? number : otherNumber) : -6;
        }
        if (nut.broken()) return -101;
        if (act.charAt(1) == '*') {
            if (nut.hard == 99) return -103;
            if (nut.hard > 59) nut.cracks++;
            nut.hard = Math.min(99, nut.hard + 10);
            return nut.broken() ? number : -6;
        }
        if (nut.child == act.charAt(1) - '0') return -104;
        nut.child = act.charAt(1) - '0';
        return -6;
    }

    /** Answers whether one of both broke. */
    private static boolean blow(Nut nut, Nut other) {
        Nut cracked = nut.force() < other.force() ? nut : other;
        Nut left = cracked == nut ? other : nut;
        cracked.cracks++;
        if (!cracked.broken()) return false;
        left.score += cracked.score;
        left.in.addAll(cracked.in);
        return true;
    }

    private int tell() {
        if (fault() != -6) return -5;
        told = now.copy();
        acts = breaks = 0;
        badAct = why = firstAct = firstNut = -6;
        Matcher matcher = ACT.matcher(pad);
        while (matcher.find()) {
            int came = act(told, matcher.group());
            if (came < -100) {
                badAct = acts;
                why = -100 - came;
                return -3;
            }
            if (came >= 0) {
                if (breaks++ == 0) {
                    firstAct = acts;
                    firstNut = came;
                }
            }
            acts++;
        }
        return 0;
    }

    int judge(int what) {
        if (out(what, 0, 2)) return -2;
        int refusal = tell();
        if (refusal == -5) return -5;
        if (what == 0) return badAct;
        if (what == 1) return why;
        return refusal == 0 ? breaks : refusal;
    }

    private static int trait(Nut nut, int what) {
        return new int[] {nut.hard, nut.cracks, nut.score, nut.child, bits(nut.in)}[what];
    }

    int behind(int nut, int what) {
        if (out(nut, 0, 9)) return -1;
        if (out(what, 0, 4)) return -2;
        int refusal = tell();
        return refusal != 0 ? refusal : trait(told.nuts.get(nut), what);
    }

    private static int childOf(World world, int child, int what) {
        int sum = 0;
        Set<Integer> which = new HashSet<>();
        for (int i = 0; i < 10; i++) {
            Nut nut = world.nuts.get(i);
            if (nut.child == child && !nut.broken()) {
                sum += nut.score;
                which.add(i);
            }
        }
        return what == 0 ? sum : bits(which);
    }

    int child(int child, int what) {
        if (out(child, 0, 3)) return -1;
        if (out(what, 0, 1)) return -2;
        int refusal = tell();
        return refusal != 0 ? refusal : childOf(told, child, what);
    }

    private static int brokenOf(World world) {
        Set<Integer> which = new HashSet<>();
        for (int i = 0; i < 10; i++) {
            if (world.nuts.get(i).broken()) which.add(i);
        }
        return bits(which);
    }

    private static int bestOf(World world) {
        int best = -6;
        for (int i = 9; i >= 0; i--) {
            Nut nut = world.nuts.get(i);
            if (!nut.broken() && (best == -6 || nut.score >= world.nuts.get(best).score)) best = i;
        }
        return best;
    }

    int street(int what) {
        if (out(what, 0, 2)) return -2;
        int refusal = tell();
        if (refusal != 0) return refusal;
        return what == 0 ? brokenOf(told) : what == 1 ? told.day : bestOf(told);
    }

    int first(int what) {
        if (out(what, 0, 1)) return -2;
        int refusal = tell();
        if (refusal != 0) return refusal;
        return what == 0 ? firstAct : firstNut;
    }

    int done() {
        int refusal = tell();
        if (refusal != 0) return refusal;
        now = told;
        pad = new StringBuilder();
        return acts;
    }

    /** Fights two, which both change; answers the blows. */
    private static int fightOut(Nut one, Nut other) {
        int blows = 0;
        while (!one.broken() && !other.broken()) {
            if (blows % 2 == 0) blow(one, other);
            else blow(other, one);
            blows++;
        }
        return blows;
    }

    int fight(int one, int other, int what) {
        if (out(one, 0, 9) || out(other, 0, 9) || one == other) return -1;
        if (out(what, 0, 2)) return -2;
        Nut a = now.nuts.get(one).copy();
        Nut b = now.nuts.get(other).copy();
        if (a.broken() || b.broken()) return -3;
        int blows = fightOut(a, b);
        return what == 0 ? (a.broken() ? other : one) : what == 1 ? blows : Math.min(a.cracks, b.cracks);
    }

    int round(int nut, int what) {
        if (out(nut, 0, 9)) return -1;
        if (out(what, 0, 1)) return -2;
        if (now.nuts.get(nut).broken()) return -6;
        Set<Long> seen = new HashSet<>();
        roundFrom(nut, now.nuts.get(nut).cracks, 0, seen);
        int best = 0;
        for (long state : seen) {
            int set = (int) (state / 10);
            int more = Integer.bitCount(set) - Integer.bitCount(best);
            if (more > 0 || more == 0 && set < best) best = set;
        }
        return what == 0 ? Integer.bitCount(best) : best;
    }

    private void roundFrom(int nut, int cracks, int set, Set<Long> seen) {
        if (!seen.add(10L * set + cracks)) return;
        for (int other = 0; other < 10; other++) {
            Nut b = now.nuts.get(other).copy();
            if (other != nut && !b.broken() && (set & 1 << other) == 0) {
                Nut a = now.nuts.get(nut).copy();
                a.cracks = cracks;
                fightOut(a, b);
                if (!a.broken()) roundFrom(nut, a.cracks, set | 1 << other, seen);
            }
        }
    }

    int cup(int nut) {
        if (out(nut, 0, 7)) return -1;
        List<int[]> entries = new ArrayList<>();
        for (int i = 0; i < 8; i++) {
            if (now.nuts.get(i).broken()) return -3;
            entries.add(new int[] {i, now.nuts.get(i).cracks});
        }
        return cupWins(entries, new ArrayList<>(), nut);
    }

    /** Entries are still to be paired in this round, winners are through to the next one. */
    private int cupWins(List<int[]> entries, List<int[]> winners, int nut) {
        if (entries.isEmpty()) {
            if (winners.size() == 1) return winners.get(0)[0] == nut ? 1 : 0;
            return cupWins(winners, new ArrayList<>(), nut);
        }
        int sum = 0;
        for (int mate = 1; mate < entries.size(); mate++) {
            List<int[]> rest = new ArrayList<>(entries);
            int[] b = rest.remove(mate);
            int[] a = rest.remove(0);
            List<int[]> through = new ArrayList<>(winners);
            through.add(meet(a, b));
            sum += cupWins(rest, through, nut);
        }
        return sum;
    }

    int[] meet(int[] a, int[] b) {
        int[] low = a[0] < b[0] ? a : b;
        int[] high = low == a ? b : a;
        Nut one = now.nuts.get(low[0]).copy();
        Nut other = now.nuts.get(high[0]).copy();
        one.cracks = low[1];
        other.cracks = high[1];
        fightOut(one, other);
        return one.broken() ? new int[] {high[0], other.cracks} : new int[] {low[0], one.cracks};
    }

    int harder(int x, int y) {
        if (out(x, 0, 4) || out(y, 0, 4) || x == y) return -2;
        if (now.sights.size() == 8) return -4;
        now.sights.add(new int[] {x, y});
        return now.sights.size();
    }

    int forget() {
        int n = now.sights.size();
        now.sights.clear();
        return n;
    }

    private static final List<String> ROWS = rows();

    private static List<String> rows() {
        List<String> rows = new ArrayList<>();
        for (int number = 1234; number <= 43210; number++) {
            String row = String.format("%05d", number);
            if (row.chars().distinct().count() == 5 && row.chars().allMatch(sign -> sign <= '4')) rows.add(row);
        }
        return rows;
    }

    private List<String> fitting(List<int[]> sights) {
        List<String> fit = new ArrayList<>();
        for (String row : ROWS) {
            if (sights.stream().allMatch(s -> row.indexOf('0' + s[0]) < row.indexOf('0' + s[1]))) fit.add(row);
        }
        return fit;
    }

    int orders(int i) {
        List<String> fit = fitting(now.sights);
        if (i == -1) return fit.size();
        return out(i, 0, fit.size() - 1) ? -6 : Integer.parseInt(fit.get(i));
    }

    int ask(int what) {
        if (out(what, 0, 1)) return -2;
        if (fitting(now.sights).isEmpty()) return -6;
        int best = -1;
        int fewest = 1000;
        for (int pair = 44; pair >= 0; pair--) {
            int x = pair / 10;
            int y = pair % 10;
            if (y <= 4 && x < y) {
                int left = Math.max(leftBy(x, y), leftBy(y, x));
                if (left <= fewest) {
                    fewest = left;
                    best = pair;
                }
            }
        }
        return what == 0 ? best : fewest;
    }

    private int leftBy(int x, int y) {
        List<int[]> more = new ArrayList<>(now.sights);
        more.add(new int[] {x, y});
        return fitting(more).size();
    }

    private static final Map<Integer, Integer> GRUNDY = new HashMap<>();

    private static int grundy(int n) {
        if (n <= 0) return 0;
        Integer known = GRUNDY.get(n);
        if (known != null) return known;
        Set<Integer> reach = new HashSet<>();
        for (int i = 0; i < n; i++) reach.add(grundy(i - 1) ^ grundy(n - 2 - i));
        int least = 0;
        while (reach.contains(least)) least++;
        GRUNDY.put(n, least);
        return least;
    }

    int row(int n, int what) {
        if (out(n, 0, 99) || out(what, 0, 1)) return -2;
        for (int i = 0; i < n; i++) {
            if ((grundy(i - 1) ^ grundy(n - 2 - i)) == 0) return what == 0 ? 1 : i;
        }
        return what == 0 ? 0 : -6;
    }

    long lot(int k, int i, int r, int what, int part) {
        if (out(k, 1, 5) || out(i, 0, (int) Math.pow(2, k) - 1) || out(r, 0, k) || out(what, 0, 1)
                || out(part, 0, 1)) return StringNuts.GONE - 2;
        BigInteger up = BigInteger.ZERO;
        BigInteger low = BigInteger.ONE;
        for (int wins = what == 0 ? r : 1; wins <= (what == 0 ? r : k); wins++) {
            BigInteger u = BigInteger.ONE;
            BigInteger l = BigInteger.ONE;
            int others = (int) Math.pow(2, k) - 1;
            for (int j = 0; j < (int) Math.pow(2, wins) - 1; j++) {
                u = u.multiply(BigInteger.valueOf(Math.max(0, others - i - j)));
                l = l.multiply(BigInteger.valueOf(others - j));
            }
            up = up.multiply(l).add(u.multiply(low));
            low = low.multiply(l);
        }
        BigInteger common = up.gcd(low);
        return (part == 0 ? up : low).divide(common).longValueExact();
    }

    int year(int seed, int m, int what) {
        if (out(seed, 0, 9999) || out(m, 1, 99) || out(what, 0, 2)) return -2;
        World world = now.copy();
        long x = seed;
        for (int i = 0; i < m; i++) {
            x = (75 * x + 74) % 65537;
            char nut = (char) ('A' + x % 10);
            int kind = (int) (x / 10 % 8);
            long z = x / 80;
            String text = kind < 4 ? nut + ">" + (char) ('A' + z % 10)
                    : kind == 4 ? nut + "*" : kind == 5 ? nut + "" + z % 4 : ".";
            act(world, text);
        }
        if (what == 0) return brokenOf(world);
        if (what == 2) return childOf(world, 0, 0);
        return world.nuts.stream().filter(n -> !n.broken()).mapToInt(n -> n.score).max().orElse(0);
    }

    int image(int k) {
        if (out(k, 0, 1)) return -2;
        images[k] = now.copy();
        return 1;
    }

    int restore(int k) {
        if (out(k, 0, 1)) return -2;
        if (images[k] == null) return -3;
        now = images[k].copy();
        return 1;
    }

    int told(int what) {
        if (what == 0) return pad.length();
        if (what == 1) return brokenOf(now);
        if (what == 2) return now.day;
        if (what == 3) return now.sights.size();
        if (out(what, 10, 59)) return -2;
        return trait(now.nuts.get(what % 10), what / 10 - 1);
    }
}
