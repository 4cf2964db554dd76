import java.util.ArrayDeque;
import java.util.ArrayList;
import java.util.Arrays;
import java.util.HashMap;
import java.util.List;
import java.util.Map;

/**
 * The document once more, written as slowly as it reads: words are kept one by one and gone through again for every
 * question, plans are tried one by one. What LastSentence answers is compared with what this one answers.
 */
final class SlowHouse {
    private static final int NONE = -1, UNKNOWN = -1000000001, OUTSIDE = -1000000002, NOT = -1000000003, FULL = -1000000004;

    /** A saying as it was: who, where, when, and which candles were lit. */
    private record Word(int heir, int room, int hour, List<Integer> lit) { }

    private static final class State {
        int hours, nights, sayings;
        int[] burns = {}, owner = {}, place = {};
        boolean[] out = {};
        List<Word> words = new ArrayList<>();

        State copy() {
            State s = new State();
            s.hours = hours;
            s.nights = nights;
            s.sayings = sayings;
            s.burns = burns.clone();
            s.owner = owner.clone();
            s.place = place.clone();
            s.out = out.clone();
            s.words = new ArrayList<>(words);
            return s;
        }
    }

    private static final class Plan {
        int n = 0;
        List<Integer> rooms = new ArrayList<>();
        List<int[]> doors = new ArrayList<>();
        List<int[]> heirs = new ArrayList<>();
    }

    private final StringBuilder text = new StringBuilder();
    private Plan plan = new Plan();
    private State now = new State();
    private final ArrayDeque<State> undoable = new ArrayDeque<>();
    private final State[] images = new State[2];
    private final long[] imageSeeds = new long[2];
    private final List<int[]> seen = new ArrayList<>();
    private final List<int[]> book = new ArrayList<>();
    private long seed = 0;
    private int faultAt = NONE;

    // ---- the manor

    int feed(int letter) {
        if (letter < 0 || letter > 255) return OUTSIDE;
        if (text.length() == 240) return FULL;
        text.append((char) letter);
        return text.length();
    }

    /** A text cut into words and numbers, each with where it stands; the end is a word of its own. */
    private record Token(String is, int at) {
        boolean isNumber() {
            return Character.isDigit(is.charAt(0)) && is.charAt(0) < 128;
        }
    }

    private List<Token> tokens(String s) {
        List<Token> found = new ArrayList<>();
        for (int i = 0; i < s.length(); i++) {
            char c = s.charAt(i);
            if (c == ' ') continue;
            int end = i + 1;
            if (c >= '0' && c <= '9') {
                while (end < s.length() && s.charAt(end) >= '0' && s.charAt(end) <= '9') end++;
            }
            found.add(new Token(s.substring(i, end), i));
            i = end - 1;
        }
        found.add(new Token("end", s.length()));
        return found;
    }

    int manor() {
        String s = text.toString();
        text.setLength(0);
        Plan told = new Plan();
        int[] fault = read(tokens(s), told);
        faultAt = fault == null ? NONE : fault[1];
        if (fault != null) return -10 - fault[0];
        plan = told;
        now = new State();
        now.burns = told.rooms.stream().mapToInt(i -> i).toArray();
        now.owner = new int[told.rooms.size()];
        Arrays.fill(now.owner, NONE);
        now.out = new boolean[told.rooms.size()];
        now.place = told.heirs.stream().mapToInt(h -> h[2]).toArray();
        undoable.clear();
        images[0] = null;
        images[1] = null;
        seen.clear();
        book.clear();
        return told.heirs.size();
    }

    private int[] read(List<Token> tokens, Plan told) {
        int i = 0;
        while (!tokens.get(i).is.equals("end")) {
            Token word = tokens.get(i);
            String which = word.is;
            if (told.n == 0 ? !which.equals("n") : !List.of("n", "r", "d", "p").contains(which)) return new int[] {1, word.at};
            if (which.equals("n") && told.n != 0) return new int[] {3, word.at};
            if (which.equals("r") && told.rooms.size() == 6) return new int[] {3, word.at};
            if (which.equals("d") && told.doors.size() == 8) return new int[] {3, word.at};
            if (which.equals("p") && told.heirs.size() == 6) return new int[] {3, word.at};
            int last = told.rooms.size() - 1;
            int[][] bounds = switch (which) {
                case "n" -> new int[][] {{1, 20}};
                case "r" -> new int[][] {{0, 20}};
                case "d" -> new int[][] {{0, last}, {0, last}, {0, 9}};
                default -> new int[][] {{0, 4}, {1, 20}, {0, last}};
            };
            int[] values = new int[bounds.length];
            for (int k = 0; k < bounds.length; k++) {
                i++;
                Token number = tokens.get(i);
                if (!number.isNumber()) return new int[] {1, number.at};
                if (number.is.length() > 3) return new int[] {2, number.at};
                values[k] = Integer.parseInt(number.is);
                if (values[k] < bounds[k][0] || values[k] > bounds[k][1]) return new int[] {2, number.at};
                if (which.equals("d") && k == 1 && values[0] == values[1]) return new int[] {4, number.at};
            }
            i++;
            if (!tokens.get(i).is.equals(";")) return new int[] {1, tokens.get(i).at};
            i++;
            switch (which) {
                case "n" -> told.n = values[0];
                case "r" -> told.rooms.add(values[0]);
                case "d" -> told.doors.add(values);
                default -> told.heirs.add(values);
            }
        }
        return null;
    }

    int fault() {
        return faultAt;
    }

    int told(int what) {
        return switch (what) {
            case 0 -> plan.n;
            case 1 -> rooms();
            case 2 -> plan.doors.size();
            case 3 -> heirs();
            case 4 -> text.length();
            case 5 -> now.hours;
            case 6 -> now.nights;
            case 7 -> now.sayings;
            case 8 -> setOf(lit(now.hours));
            case 9 -> sure();
            case 10 -> holder();
            case 11 -> seen.size();
            case 12 -> book.size();
            case 13 -> undoable.size();
            default -> OUTSIDE;
        };
    }

    int room(int r, int what) {
        if (noRoom(r)) return UNKNOWN;
        return switch (what) {
            case 0 -> now.burns[r];
            case 1 -> now.out[r] ? 1 : 0;
            case 2 -> now.owner[r];
            case 3 -> lastWord(now.words, r, 0);
            case 4 -> will(now.words, r, 0);
            case 5 -> {
                int count = 0;
                for (int p = 0; p < heirs(); p++) if (isHeard(p, now.place[p], r)) count++;
                yield count;
            }
            default -> OUTSIDE;
        };
    }

    int door(int d, int what) {
        if (noDoor(d)) return UNKNOWN;
        return what < 0 || what > 2 ? OUTSIDE : plan.doors.get(d)[what];
    }

    int heir(int p, int what) {
        if (noHeir(p)) return UNKNOWN;
        return switch (what) {
            case 0, 1 -> plan.heirs.get(p)[what];
            case 2 -> now.place[p];
            case 3 -> {
                int set = 0;
                for (int r = 0; r < rooms(); r++) if (isHeard(p, now.place[p], r)) set |= 1 << r;
                yield set;
            }
            case 4 -> counts(p);
            case 5 -> holds(p);
            default -> OUTSIDE;
        };
    }

    private int rooms() {
        return plan.rooms.size();
    }

    private int heirs() {
        return plan.heirs.size();
    }

    private boolean noRoom(int r) {
        return r < 0 || r >= rooms();
    }

    private boolean noDoor(int d) {
        return d < 0 || d >= plan.doors.size();
    }

    private boolean noHeir(int p) {
        return p < 0 || p >= heirs();
    }

    private static int setOf(List<Integer> members) {
        int set = 0;
        for (int m : members) set |= 1 << m;
        return set;
    }

    private List<Integer> lit(int hour) {
        List<Integer> found = new ArrayList<>();
        for (int r = 0; r < rooms(); r++) if (!now.out[r] && hour < now.burns[r]) found.add(r);
        return found;
    }

    private int sure() {
        int set = 0;
        for (int r = 0; r < rooms(); r++) {
            int heir = will(now.words, r, 0);
            boolean all = heir != NONE;
            for (int k = 1; k <= 3; k++) all &= will(now.words, r, k) == heir;
            if (all) set |= 1 << r;
        }
        return set;
    }

    private int holds(int p) {
        int set = 0;
        for (int r = 0; r < rooms(); r++) if (now.owner[r] == p) set |= 1 << r;
        return set;
    }

    private int holder() {
        int best = NONE;
        for (int p = heirs() - 1; p >= 0; p--) {
            int count = Integer.bitCount(holds(p));
            if (count > 0 && (best == NONE || count >= Integer.bitCount(holds(best)))) best = p;
        }
        return best;
    }

    // ---- words

    private boolean isHeard(int p, int from, int r) {
        return wall(from, r) < plan.heirs.get(p)[1];
    }

    /** Goes through all words of the night ahead of each other, as a reading has them. */
    private int lastWord(List<Word> words, int r, int reading) {
        int last = NONE;
        for (Word w : words) {
            int kind = plan.heirs.get(w.heir)[0];
            boolean second = w.hour >= plan.n / 2;
            boolean isLit = w.lit.contains(r);
            boolean here = w.room == r;
            boolean counts = switch (kind) {
                case 0, 2 -> isLit && isHeard(w.heir, w.room, r);
                case 1 -> isLit && isHeard(w.heir, w.room, r) && second;
                case 3 -> here;
                default -> here && isLit && last != NONE;
            };
            if (reading == 1 && !here || reading == 2 && !second) counts = false;
            if (counts) last = kind == 2 && reading != 3 ? 0 : w.heir;
        }
        return last;
    }

    private int will(List<Word> words, int r, int reading) {
        int last = lastWord(words, r, reading);
        return last == NONE ? now.owner[r] : last;
    }

    private List<Word> with(List<Word> words, int p, int room, int hour) {
        List<Word> more = new ArrayList<>(words);
        more.add(new Word(p, room, hour, lit(hour)));
        return more;
    }

    private int counts(int p) {
        List<Word> then = with(now.words, p, now.place[p], now.hours);
        int set = 0;
        for (int r = 0; r < rooms(); r++) if (lastWord(now.words, r, 0) != lastWord(then, r, 0)) set |= 1 << r;
        return set;
    }

    // ---- deeds

    private void remember() {
        undoable.addLast(now.copy());
        if (undoable.size() > 30) undoable.removeFirst();
    }

    int say(int p) {
        if (noHeir(p)) return UNKNOWN;
        if (now.sayings >= 90000) return FULL;
        int counts = counts(p);
        remember();
        speak(p);
        return counts;
    }

    private void speak(int p) {
        now.words = with(now.words, p, now.place[p], now.hours);
        now.sayings++;
    }

    int go(int p, int d) {
        if (noHeir(p) || noDoor(d)) return UNKNOWN;
        int[] door = plan.doors.get(d);
        if (now.place[p] != door[0] && now.place[p] != door[1]) return NOT;
        remember();
        now.place[p] = door[0] + door[1] - now.place[p];
        return now.place[p];
    }

    int hour(int n) {
        if (n < 1 || n > 20) return OUTSIDE;
        if (plan.n == 0) return NOT;
        if (now.nights > 9000) return FULL;
        for (int i = 0; i < n; i++) {
            remember();
            pass();
        }
        return now.hours;
    }

    private void pass() {
        now.hours++;
        if (now.hours == plan.n) {
            int[] mornings = new int[rooms()];
            for (int r = 0; r < rooms(); r++) mornings[r] = will(now.words, r, 0);
            now.owner = mornings;
            now.words = new ArrayList<>();
            now.out = new boolean[rooms()];
            now.hours = 0;
            now.nights++;
        }
    }

    int out(int r) {
        if (noRoom(r)) return UNKNOWN;
        if (now.out[r]) return NOT;
        remember();
        boolean was = lit(now.hours).contains(r);
        now.out[r] = true;
        return was ? 1 : 0;
    }

    int light(int r) {
        if (noRoom(r)) return UNKNOWN;
        if (!now.out[r]) return NOT;
        remember();
        now.out[r] = false;
        return lit(now.hours).contains(r) ? 1 : 0;
    }

    int candle(int r, int c) {
        if (noRoom(r)) return UNKNOWN;
        if (c < 0 || c > 20) return OUTSIDE;
        remember();
        int was = now.burns[r];
        now.burns[r] = c;
        return was;
    }

    private int draw(int n) {
        seed = (seed * 1103515245L + 12345L) % (1L << 31);
        return (int) (seed / 65536 % n);
    }

    int drift(int n) {
        if (n < 1 || n > 20) return OUTSIDE;
        if (plan.n == 0) return NOT;
        if (now.nights > 9000) return FULL;
        for (int i = 0; i < n; i++) {
            remember();
            if (heirs() > 0) {
                int act = draw(4);
                int p = draw(heirs());
                if (act < 2) speak(p);
                if (act == 2 && !plan.doors.isEmpty()) {
                    int[] door = plan.doors.get(draw(plan.doors.size()));
                    if (now.place[p] == door[0]) now.place[p] = door[1];
                    else if (now.place[p] == door[1]) now.place[p] = door[0];
                }
                if (act == 3) now.out[now.place[p]] = true;
            }
            pass();
        }
        return now.hours;
    }

    int undo(int n) {
        if (n < 1 || n > 30) return OUTSIDE;
        if (n > undoable.size()) return NOT;
        for (int i = 0; i < n; i++) now = undoable.removeLast();
        return now.hours;
    }

    // ---- tried

    private int wayBy(int a, int b, boolean byThick, boolean[] been) {
        if (a == b) return 0;
        int best = 99;
        been[a] = true;
        for (int[] d : plan.doors) {
            if (d[0] != a && d[1] != a) continue;
            int other = d[0] + d[1] - a;
            if (been[other]) continue;
            best = Math.min(best, (byThick ? d[2] : 1) + wayBy(other, b, byThick, been));
        }
        been[a] = false;
        return best;
    }

    int wall(int a, int b) {
        if (noRoom(a) || noRoom(b)) return UNKNOWN;
        return wayBy(a, b, true, new boolean[rooms()]);
    }

    int way(int a, int b) {
        if (noRoom(a) || noRoom(b)) return UNKNOWN;
        int doors = wayBy(a, b, false, new boolean[rooms()]);
        return doors == 99 ? NONE : doors;
    }

    /** Where he is, whose word is last in each room, when he first spoke; the fewest sayings to have it so. */
    private record Standing(int room, List<Integer> last, int first) { }

    int fewest(int p, int set, int what) {
        if (noHeir(p) || set < 0 || set >> rooms() != 0) return UNKNOWN;
        if (what != 0 && what != 1) return OUTSIDE;
        int name = plan.heirs.get(p)[0] == 2 ? 0 : p;
        List<Integer> last = new ArrayList<>();
        for (int r = 0; r < rooms(); r++) last.add(lastWord(now.words, r, 0));
        Map<Standing, Integer> at = new HashMap<>();
        at.put(new Standing(now.place[p], last, NONE), 0);
        for (int h = now.hours; h < plan.n; h++) at = nextHour(at, p, name, h);
        int best = NONE;
        int latest = NONE;
        for (Map.Entry<Standing, Integer> e : at.entrySet()) {
            boolean all = true;
            for (int r = 0; r < rooms(); r++) {
                int lastThere = e.getKey().last.get(r);
                int will = lastThere == NONE ? now.owner[r] : lastThere;
                if ((set >> r & 1) != 0 && will != name) all = false;
            }
            if (!all) continue;
            int sayings = e.getValue();
            if (best == NONE || sayings < best) {
                best = sayings;
                latest = e.getKey().first;
            } else if (sayings == best) {
                latest = Math.max(latest, e.getKey().first);
            }
        }
        return what == 0 ? best : latest;
    }

    private Map<Standing, Integer> nextHour(Map<Standing, Integer> at, int p, int name, int hour) {
        Map<Standing, Integer> then = new HashMap<>();
        for (Map.Entry<Standing, Integer> e : at.entrySet()) {
            Standing s = e.getKey();
            walk(then, s, e.getValue());
            List<Integer> last = new ArrayList<>(s.last);
            boolean changed = false;
            for (int r = 0; r < rooms(); r++) {
                if (wins(p, s, r, hour)) {
                    changed |= last.get(r) != name;
                    last.set(r, name);
                }
            }
            // a saying that changes nothing is never among the fewest
            if (changed) walk(then, new Standing(s.room, last, s.first == NONE ? hour : s.first), e.getValue() + 1);
        }
        return then;
    }

    private boolean wins(int p, Standing s, int r, int hour) {
        boolean isLit = !now.out[r] && hour < now.burns[r];
        return switch (plan.heirs.get(p)[0]) {
            case 0, 2 -> isLit && isHeard(p, s.room, r);
            case 1 -> isLit && isHeard(p, s.room, r) && hour >= plan.n / 2;
            case 3 -> s.room == r;
            default -> s.room == r && isLit && s.last.get(r) != NONE;
        };
    }

    private void walk(Map<Standing, Integer> then, Standing s, int sayings) {
        then.merge(s, sayings, Math::min);
        for (int[] d : plan.doors) {
            if (d[0] == s.room) then.merge(new Standing(d[1], s.last, s.first), sayings, Math::min);
            if (d[1] == s.room) then.merge(new Standing(d[0], s.last, s.first), sayings, Math::min);
        }
    }

    int reading(int r, int k) {
        if (noRoom(r)) return UNKNOWN;
        return k < 0 || k > 3 ? OUTSIDE : will(now.words, r, k);
    }

    int quiet(int n, int q) {
        if (n < 0 || n > 60 || q < 0 || q > 100) return OUTSIDE;
        if (n == 0) return 1000000000;
        return (int) (quiet(n - 1, q) * (long) q / 100);
    }

    // ---- what is seen

    int see(int r, boolean heard) {
        if (noRoom(r)) return UNKNOWN;
        if (seen.size() == 6) return FULL;
        seen.add(new int[] {r, heard ? 1 : 0});
        return seen.size();
    }

    int couldBe() {
        int set = 0;
        for (int p = 0; p < heirs(); p++) {
            boolean fits = true;
            for (int[] s : seen) fits &= isHeard(p, now.place[p], s[0]) == (s[1] == 1);
            if (fits) set |= 1 << p;
        }
        return set;
    }

    int ask() {
        int best = NONE;
        int bestPart = 0;
        for (int r = 0; r < rooms(); r++) {
            int heard = 0;
            int not = 0;
            for (int p = 0; p < heirs(); p++) {
                if ((couldBe() >> p & 1) == 0) continue;
                if (isHeard(p, now.place[p], r)) heard++;
                else not++;
            }
            if (heard == 0 || not == 0) continue;
            if (best == NONE || Math.max(heard, not) < bestPart) {
                best = r;
                bestPart = Math.max(heard, not);
            }
        }
        return best;
    }

    int write(int r, int p) {
        if (noRoom(r) || p != NONE && noHeir(p)) return UNKNOWN;
        if (book.size() == 20) return FULL;
        book.add(new int[] {r, p});
        return book.size();
    }

    int judge() {
        for (int i = 0; i < book.size(); i++) if (now.owner[book.get(i)[0]] != book.get(i)[1]) return i;
        return NONE;
    }

    int tear() {
        int had = seen.size() + book.size();
        seen.clear();
        book.clear();
        return had;
    }

    // ---- images

    int seed(int v) {
        if (v < 0) return OUTSIDE;
        int was = (int) seed;
        seed = v;
        return was;
    }

    int keep(int i) {
        if (i != 0 && i != 1) return UNKNOWN;
        images[i] = now.copy();
        imageSeeds[i] = seed;
        undoable.clear();
        return 1;
    }

    int goBack(int i) {
        if (i != 0 && i != 1) return UNKNOWN;
        if (images[i] == null) return NOT;
        now = images[i].copy();
        seed = imageSeeds[i];
        undoable.clear();
        return 1;
    }
}
