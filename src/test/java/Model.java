import java.util.ArrayList;
import java.util.Comparator;
import java.util.HashSet;
import java.util.List;
import java.util.Set;
import java.util.TreeSet;

/**
 * The document once more, in another way: nothing is kept but the lines, the
 * template of each learned one and the settings; all else is told from these
 * at each call.
 */
final class Model {
    private record Entry(int time, int source, int level, List<Integer> words) {
    }

    private record Cause(int template, int hits, int rest, int score) {
    }

    private record Spike(int window, int template, int count) {
    }

    private final List<Entry> entries = new ArrayList<>();
    private final List<Integer> owners = new ArrayList<>();
    private final int[] settings = {50, 30, 10, 20};

    private static void argument(boolean good) {
        if (!good) {
            throw new IllegalArgumentException();
        }
    }

    private static void index(int i, int size) {
        if (i < 0 || i >= size) {
            throw new IndexOutOfBoundsException();
        }
    }

    private static void state(boolean good) {
        if (!good) {
            throw new IllegalStateException();
        }
    }

    public int line(int time, int source, int level) {
        argument(time >= 0 && time <= 9999 && source >= 0 && source <= 7 && level >= 0 && level <= 3);
        state(entries.size() < 70);
        state(entries.isEmpty() || time >= entries.get(entries.size() - 1).time);
        entries.add(new Entry(time, source, level, new ArrayList<>()));
        return entries.size() - 1;
    }

    public int word(int word) {
        argument(word >= 0 && word <= 999);
        state(!entries.isEmpty() && owners.size() < entries.size());
        List<Integer> words = entries.get(entries.size() - 1).words;
        state(words.size() < 8);
        words.add(word);
        return words.size();
    }

    public int learn(int most) {
        argument(most >= 1 && most <= 70);
        int before = owners.size();
        while (owners.size() < entries.size() && owners.size() - before < most) {
            owners.add(chosen(owners, owners.size(), settings[0]));
        }
        return owners.size() - before;
    }

    public int set(int what, int n) {
        argument(what >= 0 && what <= 3);
        argument(n >= (what == 2 ? 1 : 0) && n <= (what == 0 ? 100 : 1000));
        int before = settings[what];
        settings[what] = n;
        return before;
    }

    public int forget() {
        int before = owners.size();
        owners.clear();
        return before;
    }

    public int many(int what) {
        argument(what >= 0 && what <= 5);
        return switch (what) {
            case 0 -> entries.size();
            case 1 -> owners.size();
            case 2 -> templates(owners);
            case 3 -> sessions(settings[1]).size();
            case 4 -> (int) sessions(settings[1]).stream()
                .filter(s -> s.stream().anyMatch(i -> entries.get(i).level == 3)).count();
            default -> spikes().size();
        };
    }

    public int ofLine(int line, int what) {
        index(line, entries.size());
        argument(what >= 0 && what <= 8);
        Entry entry = entries.get(line);
        return switch (what) {
            case 0 -> entry.time;
            case 1 -> entry.source;
            case 2 -> entry.level;
            case 3 -> entry.words.size();
            case 4 -> owner(line);
            case 5 -> key(line);
            case 6 -> sessionOf(line);
            case 7 -> entry.time / settings[2];
            default -> scene(line).size();
        };
    }

    public int wordAt(int line, int place) {
        index(line, entries.size());
        index(place, entries.get(line).words.size());
        return entries.get(line).words.get(place);
    }

    public int ofTemplate(int template, int what) {
        index(template, templates(owners));
        argument(what >= 0 && what <= 4);
        List<Integer> lines = linesOf(owners, template);
        return switch (what) {
            case 0 -> slots(owners, template).size();
            case 1 -> holes(template).size();
            case 2 -> lines.size();
            case 3 -> lines.get(0);
            default -> lines.stream().mapToInt(i -> entries.get(i).level).max().getAsInt();
        };
    }

    public int slot(int template, int place) {
        index(template, templates(owners));
        index(place, slots(owners, template).size());
        return slots(owners, template).get(place);
    }

    public int values(int template, int hole) {
        index(template, templates(owners));
        List<Integer> holes = holes(template);
        index(hole, holes.size());
        return (int) linesOf(owners, template).stream()
            .map(i -> entries.get(i).words.get(holes.get(hole))).distinct().count();
    }

    public int alike(int line, int template) {
        index(line, entries.size());
        index(template, templates(owners));
        return alikeness(owners, line, template);
    }

    public int ofSession(int session, int what) {
        List<List<Integer>> all = sessions(settings[1]);
        index(session, all.size());
        argument(what >= 0 && what <= 6);
        List<Integer> lines = all.get(session);
        return switch (what) {
            case 0 -> key(lines.get(0));
            case 1 -> entries.get(lines.get(0)).time;
            case 2 -> entries.get(lines.get(lines.size() - 1)).time;
            case 3 -> lines.size();
            case 4 -> (int) lines.stream().filter(i -> entries.get(i).level == 3).count();
            case 5 -> new HashSet<>(path(lines)).size();
            default -> users(all, path(lines));
        };
    }

    public int inSession(int session, int place) {
        List<List<Integer>> all = sessions(settings[1]);
        index(session, all.size());
        index(place, all.get(session).size());
        return all.get(session).get(place);
    }

    public int usual() {
        List<List<Integer>> all = sessions(settings[1]);
        int best = -1;
        for (int s = all.size() - 1; s >= 0; s--) {
            if (best < 0 || users(all, path(all.get(s))) >= users(all, path(all.get(best)))) {
                best = s;
            }
        }
        return best;
    }

    public double meanSession() {
        return sessions(settings[1]).stream().mapToInt(List::size).average().orElse(0.0);
    }

    public int count(int template, int window) {
        index(template, templates(owners));
        argument(window >= 0);
        return inWindow(template, window);
    }

    public int spike(int spike, int what) {
        List<Spike> all = spikes();
        index(spike, all.size());
        argument(what >= 0 && what <= 2);
        Spike s = all.get(spike);
        return what == 0 ? s.window : what == 1 ? s.template : s.count;
    }

    public int causes(int template) {
        index(template, templates(owners));
        return causesOf(template).size();
    }

    public int cause(int template, int cause, int what) {
        index(template, templates(owners));
        List<Cause> all = causesOf(template);
        index(cause, all.size());
        argument(what >= 0 && what <= 3);
        Cause c = all.get(cause);
        return what == 0 ? c.template : what == 1 ? c.hits : what == 2 ? c.rest : c.score;
    }

    public int because(int line) {
        index(line, entries.size());
        if (owner(line) < 0) {
            return -1;
        }
        for (Cause cause : causesOf(owner(line))) {
            int last = scene(line).stream().filter(j -> owner(j) == cause.template)
                .max(Comparator.naturalOrder()).orElse(-1);
            if (last >= 0) {
                return last;
            }
        }
        return -1;
    }

    public int templatesWith(int share) {
        argument(share >= 0 && share <= 100);
        List<Integer> book = new ArrayList<>();
        for (int line = 0; line < entries.size(); line++) {
            book.add(chosen(book, line, share));
        }
        return templates(book);
    }

    public int sessionsWith(int gap) {
        argument(gap >= 0 && gap <= 1000);
        return sessions(gap).size();
    }

    public int wouldBe(int line) {
        index(line, entries.size());
        state(line >= owners.size());
        return chosen(owners, line, settings[0]);
    }

    public long digest() {
        List<Integer> numbers = new ArrayList<>();
        for (int what = 0; what <= 5; what++) {
            numbers.add(many(what));
        }
        for (int line = 0; line < entries.size(); line++) {
            for (int what = 4; what <= 8; what++) {
                numbers.add(ofLine(line, what));
            }
            numbers.add(because(line));
        }
        for (int t = 0; t < templates(owners); t++) {
            numbers.add(t);
            for (int what = 0; what <= 4; what++) {
                numbers.add(ofTemplate(t, what));
            }
            numbers.addAll(slots(owners, t));
            for (int hole = 0; hole < holes(t).size(); hole++) {
                numbers.add(values(t, hole));
            }
            numbers.add(causes(t));
            for (Cause cause : causesOf(t)) {
                numbers.addAll(List.of(cause.template, cause.hits, cause.rest, cause.score));
            }
        }
        for (int s = 0; s < many(3); s++) {
            for (int what = 0; what <= 6; what++) {
                numbers.add(ofSession(s, what));
            }
        }
        numbers.add(usual());
        for (Spike spike : spikes()) {
            numbers.addAll(List.of(spike.window, spike.template, spike.count));
        }
        long d = 58085;
        for (int x : numbers) {
            d = d * 31 + x;
        }
        return d;
    }

    private static int templates(List<Integer> book) {
        return 1 + book.stream().max(Comparator.naturalOrder()).orElse(-1);
    }

    private static List<Integer> linesOf(List<Integer> book, int template) {
        List<Integer> lines = new ArrayList<>();
        for (int i = 0; i < book.size(); i++) {
            if (book.get(i) == template) {
                lines.add(i);
            }
        }
        return lines;
    }

    /** A place is a hole where the lines of the template have several words. */
    private List<Integer> slots(List<Integer> book, int template) {
        List<Integer> lines = linesOf(book, template);
        List<Integer> slots = new ArrayList<>();
        for (int place = 0; place < entries.get(lines.get(0)).words.size(); place++) {
            Set<Integer> words = new TreeSet<>();
            for (int line : lines) {
                words.add(entries.get(line).words.get(place));
            }
            slots.add(words.size() == 1 ? words.iterator().next() : -1);
        }
        return slots;
    }

    private List<Integer> holes(int template) {
        List<Integer> slots = slots(owners, template);
        List<Integer> holes = new ArrayList<>();
        for (int place = 0; place < slots.size(); place++) {
            if (slots.get(place) < 0) {
                holes.add(place);
            }
        }
        return holes;
    }

    private int alikeness(List<Integer> book, int line, int template) {
        List<Integer> words = entries.get(line).words;
        List<Integer> slots = slots(book, template);
        if (words.size() != slots.size()) {
            return -1;
        }
        int same = 0;
        for (int place = 0; place < words.size(); place++) {
            same += words.get(place).equals(slots.get(place)) ? 1 : 0;
        }
        return same;
    }

    private int chosen(List<Integer> book, int line, int share) {
        int best = -1;
        for (int t = templates(book) - 1; t >= 0; t--) {
            int same = alikeness(book, line, t);
            if (same >= 0 && (best < 0 || same >= alikeness(book, line, best))) {
                best = t;
            }
        }
        int n = entries.get(line).words.size();
        if (best >= 0 && alikeness(book, line, best) >= (n * share + 99) / 100) {
            return best;
        }
        return templates(book) < 20 ? templates(book) : -1;
    }

    private int owner(int line) {
        return line < owners.size() ? owners.get(line) : -1;
    }

    private int key(int line) {
        if (owner(line) < 0 || holes(owner(line)).isEmpty()) {
            return -1;
        }
        return entries.get(line).words.get(holes(owner(line)).get(0));
    }

    private List<List<Integer>> sessions(int gap) {
        List<List<Integer>> all = new ArrayList<>();
        for (int line = 0; line < entries.size(); line++) {
            int key = key(line);
            if (key < 0) {
                continue;
            }
            List<Integer> latest = null;
            for (List<Integer> session : all) {
                latest = key(session.get(0)) == key ? session : latest;
            }
            if (latest == null
                    || entries.get(line).time > entries.get(latest.get(latest.size() - 1)).time + gap) {
                latest = new ArrayList<>();
                all.add(latest);
            }
            latest.add(line);
        }
        return all;
    }

    private int sessionOf(int line) {
        List<List<Integer>> all = sessions(settings[1]);
        for (int s = 0; s < all.size(); s++) {
            if (all.get(s).contains(line)) {
                return s;
            }
        }
        return -1;
    }

    private List<Integer> path(List<Integer> session) {
        List<Integer> path = new ArrayList<>();
        for (int line : session) {
            path.add(owner(line));
        }
        return path;
    }

    private int users(List<List<Integer>> all, List<Integer> path) {
        return (int) all.stream().filter(s -> path(s).equals(path)).count();
    }

    private int inWindow(int template, int window) {
        return (int) linesOf(owners, template).stream()
            .filter(i -> entries.get(i).time / settings[2] == window).count();
    }

    private List<Spike> spikes() {
        Set<Integer> windows = new TreeSet<>();
        for (Entry entry : entries) {
            windows.add(entry.time / settings[2]);
        }
        List<Spike> all = new ArrayList<>();
        for (int window : windows) {
            for (int t = 0; t < templates(owners); t++) {
                int count = inWindow(t, window);
                int before = 0;
                for (int back = 1; back <= 4; back++) {
                    before += inWindow(t, window - back);
                }
                if (count >= 3 && 2 * count > before) {
                    all.add(new Spike(window, t, count));
                }
            }
        }
        return all;
    }

    private Set<Integer> scene(int line) {
        Set<Integer> scene = new TreeSet<>();
        Entry own = entries.get(line);
        int key = key(line);
        for (int j = 0; j < line && j < owners.size(); j++) {
            Entry other = entries.get(j);
            if (own.time - settings[3] <= other.time) {
                if (other.source == own.source) {
                    scene.add(j);
                }
                if (key != -1 && key(j) == key) {
                    scene.add(j);
                }
            }
        }
        return scene;
    }

    private List<Cause> causesOf(int e) {
        List<Set<Integer>> seen = new ArrayList<>();
        for (int i = 0; i < owners.size(); i++) {
            Set<Integer> in = new TreeSet<>();
            for (int j : scene(i)) {
                in.add(owner(j));
            }
            seen.add(in);
        }
        int of = linesOf(owners, e).size();
        int others = owners.size() - of;
        List<Cause> all = new ArrayList<>();
        for (int c = 0; c < templates(owners); c++) {
            int hits = 0;
            int rest = 0;
            for (int i = 0; i < owners.size(); i++) {
                if (seen.get(i).contains(c)) {
                    hits += owner(i) == e ? 1 : 0;
                    rest += owner(i) != e ? 1 : 0;
                }
            }
            int score = 1000 * hits / of - (others == 0 ? 0 : 1000 * rest / others);
            if (c != e && score > 0) {
                all.add(new Cause(c, hits, rest, score));
            }
        }
        all.sort(Comparator.comparingInt(cause -> -cause.score));
        return all;
    }
}
