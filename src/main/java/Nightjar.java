/**
 * A reader of logs: it learns templates from lines of words, and tells the
 * sessions, the spikes and the likely causes that follow from them.
 */
public final class Nightjar {
    private static final int MOST_LINES = 70;
    private static final int MOST_WORDS = 8;
    private static final int MOST_TEMPLATES = 20;
    private static final int LAST_TIME = 9999;
    private static final int LAST_SOURCE = 7;
    private static final int WORST_LEVEL = 3;
    private static final int LAST_WORD = 999;

    private static final int SHARE = 0;
    private static final int GAP = 1;
    private static final int WIDTH = 2;
    private static final int BACK = 3;
    private static final int SETTINGS = 4;
    private static final int MOST_SHARE = 100;
    private static final int MOST_SPAN = 1000;

    private static final int LEAST_SPIKE = 3;
    private static final int WINDOWS_BEFORE = 4;
    private static final int MOST_SPIKES = MOST_LINES / LEAST_SPIKE;
    private static final int PAIRS = MOST_TEMPLATES * MOST_TEMPLATES;

    private static final int NONE = -1;
    private static final long DIGEST_START = 58085L;
    private static final long DIGEST_FACTOR = 31L;

    private final Lines lines;
    private final Templates templates;
    private final Templates trial;
    private final Sessions sessions;
    private final Spikes spikes;
    private final Scenes scenes;
    private final Row settings;

    public Nightjar() {
        lines = new Lines();
        templates = new Templates();
        trial = new Templates();
        sessions = new Sessions();
        spikes = new Spikes();
        scenes = new Scenes();
        settings = new Row(SETTINGS);
        settings.put(SHARE, 50);
        settings.put(GAP, 30);
        settings.put(WIDTH, 10);
        settings.put(BACK, 20);
    }

    // ---- lines

    public int line(int time, int source, int level) throws IllegalArgumentException, IllegalStateException {
        if (!isWithin(time, LAST_TIME) || !isWithin(source, LAST_SOURCE) || !isWithin(level, WORST_LEVEL)) {
            throw new IllegalArgumentException("no such time, source or level");
        }
        if (lines.number >= MOST_LINES) {
            throw new IllegalStateException("there are all the lines that there can be");
        }
        if (lines.number > 0 && time < lines.times.at(lines.number - 1)) {
            throw new IllegalStateException("the time is below that of the last line");
        }
        int added = lines.append(time, source, level);
        recompute();
        return added;
    }

    public int word(int word) throws IllegalArgumentException, IllegalStateException {
        if (!isWithin(word, LAST_WORD)) {
            throw new IllegalArgumentException("no such word");
        }
        int last = lines.number - 1;
        if (last < 0 || lines.sizes.at(last) >= MOST_WORDS || lines.learned > last) {
            throw new IllegalStateException("no line takes a word now");
        }
        // Nothing is told by the words of a line before it is learned.
        return lines.appendWord(last, word);
    }

    public int learn(int most) throws IllegalArgumentException {
        if (most < 1 || most > MOST_LINES) {
            throw new IllegalArgumentException("most is not 1 to 70");
        }
        int left = lines.number - lines.learned;
        int taken = most < left ? most : left;
        for (int i = 0; i < taken; i++) {
            int next = lines.learned;
            lines.templateOf.put(next, templates.take(lines, next, settings.at(SHARE)));
            lines.learned = next + 1;
        }
        recompute();
        return taken;
    }

    public int set(int what, int n) throws IllegalArgumentException {
        if (!isWithin(what, SETTINGS - 1)) {
            throw new IllegalArgumentException("no such setting");
        }
        int least = what == WIDTH ? 1 : 0;
        int most = what == SHARE ? MOST_SHARE : MOST_SPAN;
        if (n < least || n > most) {
            throw new IllegalArgumentException("the setting is out of its range");
        }
        int before = settings.at(what);
        settings.put(what, n);
        recompute();
        return before;
    }

    public int forget() {
        int before = lines.learned;
        lines.unlearn();
        templates.number = 0;
        recompute();
        return before;
    }

    public int many(int what) throws IllegalArgumentException {
        if (!isWithin(what, 5)) {
            throw new IllegalArgumentException("what is not 0 to 5");
        }
        switch (what) {
            case 0:
                return lines.number;
            case 1:
                return lines.learned;
            case 2:
                return templates.number;
            case 3:
                return sessions.number;
            case 4:
                return sessions.howManyBroken();
            default:
                return spikes.number;
        }
    }

    public int ofLine(int line, int what) throws IndexOutOfBoundsException, IllegalArgumentException {
        if (!hasLine(line)) {
            throw new IndexOutOfBoundsException("no such line");
        }
        if (!isWithin(what, 8)) {
            throw new IllegalArgumentException("what is not 0 to 8");
        }
        switch (what) {
            case 0:
                return lines.times.at(line);
            case 1:
                return lines.sources.at(line);
            case 2:
                return lines.levels.at(line);
            case 3:
                return lines.sizes.at(line);
            case 4:
                return lines.templateOf.at(line);
            case 5:
                return lines.keys.at(line);
            case 6:
                return sessions.sessionOf.at(line);
            case 7:
                return quotient(lines.times.at(line), settings.at(WIDTH));
            default:
                return scenes.sizes.at(line);
        }
    }

    public int wordAt(int line, int place) throws IndexOutOfBoundsException {
        if (!hasLine(line)) {
            throw new IndexOutOfBoundsException("no such line");
        }
        if (place < 0 || place >= lines.sizes.at(line)) {
            throw new IndexOutOfBoundsException("no such place in the line");
        }
        return lines.wordIn(line, place);
    }

    // ---- templates

    public int ofTemplate(int template, int what) throws IndexOutOfBoundsException, IllegalArgumentException {
        if (!hasTemplate(template)) {
            throw new IndexOutOfBoundsException("no such template");
        }
        if (!isWithin(what, 4)) {
            throw new IllegalArgumentException("what is not 0 to 4");
        }
        switch (what) {
            case 0:
                return templates.sizes.at(template);
            case 1:
                return templates.howManyHoles(template);
            case 2:
                return lines.howManyOf(template);
            case 3:
                return lines.firstOf(template);
            default:
                return lines.worstLevelOf(template);
        }
    }

    public int slot(int template, int place) throws IndexOutOfBoundsException {
        if (!hasTemplate(template)) {
            throw new IndexOutOfBoundsException("no such template");
        }
        if (place < 0 || place >= templates.sizes.at(template)) {
            throw new IndexOutOfBoundsException("no such place in the template");
        }
        return templates.slotIn(template, place);
    }

    public int values(int template, int hole) throws IndexOutOfBoundsException {
        if (!hasTemplate(template)) {
            throw new IndexOutOfBoundsException("no such template");
        }
        int place = templates.placeOfHole(template, hole);
        if (place == NONE) {
            throw new IndexOutOfBoundsException("no such hole in the template");
        }
        return lines.howManyWordsOf(template, place);
    }

    public int alike(int line, int template) throws IndexOutOfBoundsException {
        if (!hasLine(line)) {
            throw new IndexOutOfBoundsException("no such line");
        }
        if (!hasTemplate(template)) {
            throw new IndexOutOfBoundsException("no such template");
        }
        return templates.likeness(lines, line, template);
    }

    // ---- sessions

    public int ofSession(int session, int what) throws IndexOutOfBoundsException, IllegalArgumentException {
        if (!hasSession(session)) {
            throw new IndexOutOfBoundsException("no such session");
        }
        if (!isWithin(what, 6)) {
            throw new IllegalArgumentException("what is not 0 to 6");
        }
        switch (what) {
            case 0:
                return lines.keys.at(sessions.firsts.at(session));
            case 1:
                return lines.times.at(sessions.firsts.at(session));
            case 2:
                return lines.times.at(sessions.lasts.at(session));
            case 3:
                return sessions.sizes.at(session);
            case 4:
                return sessions.worst.at(session);
            case 5:
                return sessions.howManyTemplates(lines, session);
            default:
                return sessions.howManyAlike(session);
        }
    }

    public int inSession(int session, int place) throws IndexOutOfBoundsException {
        if (!hasSession(session)) {
            throw new IndexOutOfBoundsException("no such session");
        }
        if (place < 0 || place >= sessions.sizes.at(session)) {
            throw new IndexOutOfBoundsException("no such place in the session");
        }
        return sessions.lineIn(session, place);
    }

    public int usual() {
        return sessions.mostAlike();
    }

    public double meanSession() {
        if (sessions.number <= 0) {
            return 0.0;
        }
        return (double) sessions.howManyLines() / (double) sessions.number;
    }

    // ---- windows

    public int count(int template, int window) throws IndexOutOfBoundsException, IllegalArgumentException {
        if (!hasTemplate(template)) {
            throw new IndexOutOfBoundsException("no such template");
        }
        if (window < 0) {
            throw new IllegalArgumentException("the window is less than 0");
        }
        return lines.howManyBetween(template, window, window, settings.at(WIDTH));
    }

    public int spike(int spike, int what) throws IndexOutOfBoundsException, IllegalArgumentException {
        if (spike < 0 || spike >= spikes.number) {
            throw new IndexOutOfBoundsException("no such spike");
        }
        if (!isWithin(what, 2)) {
            throw new IllegalArgumentException("what is not 0 to 2");
        }
        switch (what) {
            case 0:
                return spikes.windows.at(spike);
            case 1:
                return spikes.templates.at(spike);
            default:
                return spikes.counts.at(spike);
        }
    }

    // ---- causes

    public int causes(int template) throws IndexOutOfBoundsException {
        if (!hasTemplate(template)) {
            throw new IndexOutOfBoundsException("no such template");
        }
        return scenes.causeNumbers.at(template);
    }

    public int cause(int template, int cause, int what) throws IndexOutOfBoundsException, IllegalArgumentException {
        if (!hasTemplate(template)) {
            throw new IndexOutOfBoundsException("no such template");
        }
        if (cause < 0 || cause >= scenes.causeNumbers.at(template)) {
            throw new IndexOutOfBoundsException("no such cause of the template");
        }
        if (!isWithin(what, 3)) {
            throw new IllegalArgumentException("what is not 0 to 3");
        }
        int other = scenes.causeOf(template, cause);
        switch (what) {
            case 0:
                return other;
            case 1:
                return scenes.hits(template, other);
            case 2:
                return scenes.rest(template, other);
            default:
                return scenes.score(template, other);
        }
    }

    public int because(int line) throws IndexOutOfBoundsException {
        if (!hasLine(line)) {
            throw new IndexOutOfBoundsException("no such line");
        }
        return scenes.lineBehind(lines, line, settings.at(BACK));
    }

    // ---- what would be (nothing is changed)

    public int templatesWith(int share) throws IllegalArgumentException {
        if (!isWithin(share, MOST_SHARE)) {
            throw new IllegalArgumentException("the share is not 0 to 100");
        }
        trial.number = 0;
        for (int i = 0; i < lines.number; i++) {
            trial.take(lines, i, share);
        }
        return trial.number;
    }

    public int sessionsWith(int gap) throws IllegalArgumentException {
        if (!isWithin(gap, MOST_SPAN)) {
            throw new IllegalArgumentException("the gap is not 0 to 1000");
        }
        int found = 0;
        for (int i = 0; i < lines.number; i++) {
            if (lines.keys.at(i) >= 0 && lines.joined(i, gap) == NONE) {
                found++;
            }
        }
        return found;
    }

    public int wouldBe(int line) throws IndexOutOfBoundsException, IllegalStateException {
        if (!hasLine(line)) {
            throw new IndexOutOfBoundsException("no such line");
        }
        if (line < lines.learned) {
            throw new IllegalStateException("the line is learned");
        }
        return templates.choose(lines, line, settings.at(SHARE));
    }

    public long digest() {
        long d = DIGEST_START;
        for (int what = 0; what <= 5; what++) {
            d = mix(d, many(what));
        }
        for (int i = 0; i < lines.number; i++) {
            d = mixLine(d, i);
        }
        for (int t = 0; t < templates.number; t++) {
            d = mixTemplate(d, t);
        }
        for (int s = 0; s < sessions.number; s++) {
            for (int what = 0; what <= 6; what++) {
                d = mix(d, ofSession(s, what));
            }
        }
        d = mix(d, usual());
        for (int p = 0; p < spikes.number; p++) {
            for (int what = 0; what <= 2; what++) {
                d = mix(d, spike(p, what));
            }
        }
        return d;
    }

    private long mixLine(long start, int line) {
        long d = start;
        for (int what = 4; what <= 8; what++) {
            d = mix(d, ofLine(line, what));
        }
        return mix(d, because(line));
    }

    private long mixTemplate(long start, int template) {
        long d = mix(start, template);
        for (int what = 0; what <= 4; what++) {
            d = mix(d, ofTemplate(template, what));
        }
        int places = templates.sizes.at(template);
        for (int place = 0; place < places; place++) {
            d = mix(d, slot(template, place));
        }
        int holes = templates.howManyHoles(template);
        for (int hole = 0; hole < holes; hole++) {
            d = mix(d, values(template, hole));
        }
        int found = causes(template);
        d = mix(d, found);
        for (int c = 0; c < found; c++) {
            for (int what = 0; what <= 3; what++) {
                d = mix(d, cause(template, c, what));
            }
        }
        return d;
    }

    private static long mix(long d, int x) {
        return d * DIGEST_FACTOR + x;
    }

    private boolean hasLine(int line) {
        return line >= 0 && line < lines.number;
    }

    private boolean hasTemplate(int template) {
        return template >= 0 && template < templates.number;
    }

    private boolean hasSession(int session) {
        return session >= 0 && session < sessions.number;
    }

    private static boolean isWithin(int n, int most) {
        return n >= 0 && n <= most;
    }

    /** 0 stands for a share of nothing, so that no division can throw. */
    private static int quotient(int a, int b) {
        return b == 0 ? 0 : a / b;
    }

    /** To be called after each change of the lines, templates or settings. */
    private void recompute() {
        // The order matters: sessions and scenes are told by the keys.
        lines.findKeys(templates);
        sessions.find(lines, settings.at(GAP));
        sessions.comparePaths(lines);
        spikes.find(lines, templates.number, settings.at(WIDTH));
        scenes.look(lines, settings.at(BACK));
        scenes.tally(lines, templates.number);
        scenes.rankCauses(templates.number, lines.learned);
    }

    /** A row of numbers; outside it stands NONE, so that no index can throw. */
    private static final class Row {
        private final int[] cells;

        Row(int length) {
            cells = new int[length > 0 ? length : 0];
        }

        int at(int index) {
            return index >= 0 && index < cells.length ? cells[index] : NONE;
        }

        void put(int index, int number) {
            if (index >= 0 && index < cells.length) {
                cells[index] = number;
            }
        }

        void increase(int index) {
            if (index >= 0 && index < cells.length) {
                cells[index]++;
            }
        }

        void clear() {
            for (int i = 0; i < cells.length; i++) {
                cells[i] = 0;
            }
        }
    }

    /** The lines in their order; the learned ones are those below `learned`. */
    private static final class Lines {
        final Row times = new Row(MOST_LINES);
        final Row sources = new Row(MOST_LINES);
        final Row levels = new Row(MOST_LINES);
        final Row sizes = new Row(MOST_LINES);
        final Row words = new Row(MOST_LINES * MOST_WORDS);
        final Row templateOf = new Row(MOST_LINES);
        final Row keys = new Row(MOST_LINES);
        int number;
        int learned;

        int append(int time, int source, int level) {
            int added = number;
            times.put(added, time);
            sources.put(added, source);
            levels.put(added, level);
            sizes.put(added, 0);
            templateOf.put(added, NONE);
            number = added + 1;
            return added;
        }

        int appendWord(int line, int word) {
            int size = sizes.at(line);
            words.put(line * MOST_WORDS + size, word);
            sizes.put(line, size + 1);
            return size + 1;
        }

        void unlearn() {
            for (int i = 0; i < number; i++) {
                templateOf.put(i, NONE);
            }
            learned = 0;
        }

        int wordIn(int line, int place) {
            return words.at(line * MOST_WORDS + place);
        }

        void findKeys(Templates book) {
            for (int i = 0; i < number; i++) {
                int place = book.placeOfHole(templateOf.at(i), 0);
                keys.put(i, place == NONE ? NONE : wordIn(i, place));
            }
        }

        int howManyOf(int template) {
            int found = 0;
            for (int i = 0; i < learned; i++) {
                if (templateOf.at(i) == template) {
                    found++;
                }
            }
            return found;
        }

        int firstOf(int template) {
            for (int i = 0; i < learned; i++) {
                if (templateOf.at(i) == template) {
                    return i;
                }
            }
            return NONE;
        }

        int worstLevelOf(int template) {
            int worst = 0;
            for (int i = 0; i < learned; i++) {
                if (templateOf.at(i) == template && levels.at(i) > worst) {
                    worst = levels.at(i);
                }
            }
            return worst;
        }

        int howManyWordsOf(int template, int place) {
            int found = 0;
            for (int i = 0; i < learned; i++) {
                if (templateOf.at(i) == template && isNewWord(i, place)) {
                    found++;
                }
            }
            return found;
        }

        private boolean isNewWord(int line, int place) {
            for (int j = 0; j < line; j++) {
                if (templateOf.at(j) == templateOf.at(line) && wordIn(j, place) == wordIn(line, place)) {
                    return false;
                }
            }
            return true;
        }

        /** Both windows are counted, too. */
        int howManyBetween(int template, int firstWindow, int lastWindow, int width) {
            int found = 0;
            for (int i = 0; i < learned; i++) {
                int window = quotient(times.at(i), width);
                if (templateOf.at(i) == template && window >= firstWindow && window <= lastWindow) {
                    found++;
                }
            }
            return found;
        }

        /** The line whose session the line goes on with; NONE if it begins one. */
        int joined(int line, int gap) {
            for (int j = line - 1; j >= 0; j--) {
                if (keys.at(j) == keys.at(line)) {
                    return times.at(line) - times.at(j) <= gap ? j : NONE;
                }
            }
            return NONE;
        }

        boolean isInScene(int other, int line, int back) {
            if (other >= line || other >= learned || times.at(other) < times.at(line) - back) {
                return false;
            }
            boolean sameKey = keys.at(line) >= 0 && keys.at(other) == keys.at(line);
            return sameKey || sources.at(other) == sources.at(line);
        }
    }

    /** Rows of places, in each a word, or NONE for a hole. */
    private static final class Templates {
        final Row sizes = new Row(MOST_TEMPLATES);
        final Row slots = new Row(MOST_TEMPLATES * MOST_WORDS);
        int number;

        int slotIn(int template, int place) {
            return slots.at(template * MOST_WORDS + place);
        }

        int howManyHoles(int template) {
            int found = 0;
            for (int place = 0; place < sizes.at(template); place++) {
                if (slotIn(template, place) == NONE) {
                    found++;
                }
            }
            return found;
        }

        /** NONE if there is no such template, or it has no such hole. */
        int placeOfHole(int template, int hole) {
            int found = 0;
            for (int place = 0; place < sizes.at(template); place++) {
                if (slotIn(template, place) == NONE) {
                    if (found == hole) {
                        return place;
                    }
                    found++;
                }
            }
            return NONE;
        }

        /** NONE if the line has not as many words as the template has places. */
        int likeness(Lines lines, int line, int template) {
            int size = sizes.at(template);
            if (lines.sizes.at(line) != size) {
                return NONE;
            }
            int same = 0;
            for (int place = 0; place < size; place++) {
                if (lines.wordIn(line, place) == slotIn(template, place)) {
                    same++;
                }
            }
            return same;
        }

        /** The number of a new template, too; NONE if there is no room for it. */
        int choose(Lines lines, int line, int share) {
            int best = NONE;
            int most = NONE;
            for (int t = 0; t < number; t++) {
                int same = likeness(lines, line, t);
                if (same > most) {
                    most = same;
                    best = t;
                }
            }
            int needed = (lines.sizes.at(line) * share + 99) / 100;
            if (best != NONE && most >= needed) {
                return best;
            }
            return number < MOST_TEMPLATES ? number : NONE;
        }

        /** Returns the template that the line is of from now on. */
        int take(Lines lines, int line, int share) {
            int chosen = choose(lines, line, share);
            if (chosen == NONE) {
                return NONE;
            }
            if (chosen == number) {
                copy(lines, line);
            } else {
                widen(lines, line, chosen);
            }
            return chosen;
        }

        private void copy(Lines lines, int line) {
            int size = lines.sizes.at(line);
            sizes.put(number, size);
            for (int place = 0; place < size; place++) {
                slots.put(number * MOST_WORDS + place, lines.wordIn(line, place));
            }
            number++;
        }

        private void widen(Lines lines, int line, int template) {
            for (int place = 0; place < sizes.at(template); place++) {
                if (slotIn(template, place) != lines.wordIn(line, place)) {
                    slots.put(template * MOST_WORDS + place, NONE);
                }
            }
        }
    }

    /** The sessions of all lines with a key. */
    private static final class Sessions {
        final Row sessionOf = new Row(MOST_LINES);
        final Row nexts = new Row(MOST_LINES);
        final Row firsts = new Row(MOST_LINES);
        final Row lasts = new Row(MOST_LINES);
        final Row sizes = new Row(MOST_LINES);
        final Row worst = new Row(MOST_LINES);
        final Row paths = new Row(MOST_LINES);
        final Row users = new Row(MOST_LINES);
        int number;

        void find(Lines lines, int gap) {
            number = 0;
            for (int i = 0; i < lines.number; i++) {
                sessionOf.put(i, NONE);
                if (lines.keys.at(i) >= 0) {
                    int ahead = lines.joined(i, gap);
                    int session = ahead == NONE ? begin(i) : goOn(ahead, i);
                    sessionOf.put(i, session);
                    lasts.put(session, i);
                    sizes.increase(session);
                    if (lines.levels.at(i) == WORST_LEVEL) {
                        worst.increase(session);
                    }
                }
            }
        }

        private int begin(int line) {
            int session = number;
            firsts.put(session, line);
            sizes.put(session, 0);
            worst.put(session, 0);
            number = session + 1;
            return session;
        }

        private int goOn(int ahead, int line) {
            nexts.put(ahead, line);
            return sessionOf.at(ahead);
        }

        /** A path is named by the first session that has it. */
        void comparePaths(Lines lines) {
            users.clear();
            for (int s = 0; s < number; s++) {
                int path = 0;
                while (path < s && !isSamePath(lines, path, s)) {
                    path++;
                }
                paths.put(s, path);
                users.increase(path);
            }
        }

        private boolean isSamePath(Lines lines, int a, int b) {
            if (sizes.at(a) != sizes.at(b)) {
                return false;
            }
            int i = firsts.at(a);
            int j = firsts.at(b);
            for (int place = 0; place < sizes.at(a); place++) {
                if (lines.templateOf.at(i) != lines.templateOf.at(j)) {
                    return false;
                }
                i = nexts.at(i);
                j = nexts.at(j);
            }
            return true;
        }

        int lineIn(int session, int place) {
            int line = firsts.at(session);
            for (int i = 0; i < place; i++) {
                line = nexts.at(line);
            }
            return line;
        }

        int howManyTemplates(Lines lines, int session) {
            int seen = 0;
            int line = firsts.at(session);
            for (int place = 0; place < sizes.at(session); place++) {
                seen = seen | (1 << lines.templateOf.at(line));
                line = nexts.at(line);
            }
            return Integer.bitCount(seen);
        }

        int howManyBroken() {
            int broken = 0;
            for (int s = 0; s < number; s++) {
                if (worst.at(s) > 0) {
                    broken++;
                }
            }
            return broken;
        }

        int howManyLines() {
            int sum = 0;
            for (int s = 0; s < number; s++) {
                sum += sizes.at(s);
            }
            return sum;
        }

        int howManyAlike(int session) {
            return users.at(paths.at(session));
        }

        int mostAlike() {
            int best = NONE;
            int most = 0;
            for (int s = 0; s < number; s++) {
                if (howManyAlike(s) > most) {
                    most = howManyAlike(s);
                    best = s;
                }
            }
            return best;
        }
    }

    /** The pairs of a window and a template that spikes there. */
    private static final class Spikes {
        final Row windows = new Row(MOST_SPIKES);
        final Row templates = new Row(MOST_SPIKES);
        final Row counts = new Row(MOST_SPIKES);
        private final Row inWindow = new Row(MOST_TEMPLATES);
        int number;

        void find(Lines lines, int templateNumber, int width) {
            number = 0;
            inWindow.clear();
            for (int i = 0; i < lines.learned; i++) {
                inWindow.increase(lines.templateOf.at(i));
                int window = quotient(lines.times.at(i), width);
                // Times never fall, so the lines of a window stand side by side.
                if (i + 1 == lines.learned || quotient(lines.times.at(i + 1), width) != window) {
                    closeWindow(lines, templateNumber, window, width);
                }
            }
        }

        private void closeWindow(Lines lines, int templateNumber, int window, int width) {
            for (int t = 0; t < templateNumber; t++) {
                int inside = inWindow.at(t);
                if (inside >= LEAST_SPIKE) {
                    int before = lines.howManyBetween(t, window - WINDOWS_BEFORE, window - 1, width);
                    if (2 * inside > before) {
                        enter(window, t, inside);
                    }
                }
                inWindow.put(t, 0);
            }
        }

        private void enter(int window, int template, int inside) {
            windows.put(number, window);
            templates.put(number, template);
            counts.put(number, inside);
            number++;
        }
    }

    /** What is in the scenes of the lines, and the causes that this tells. */
    private static final class Scenes {
        final Row sizes = new Row(MOST_LINES);
        // A bit for each template of which there is a line in the scene.
        private final Row masks = new Row(MOST_LINES);
        // How many lines of a template have one of another in their scene.
        private final Row together = new Row(PAIRS);
        // How many learned lines have one of the template in their scene.
        private final Row all = new Row(MOST_TEMPLATES);
        private final Row lineNumbers = new Row(MOST_TEMPLATES);
        private final Row scores = new Row(PAIRS);
        private final Row ranking = new Row(PAIRS);
        final Row causeNumbers = new Row(MOST_TEMPLATES);

        void look(Lines lines, int back) {
            for (int i = 0; i < lines.number; i++) {
                int size = 0;
                int mask = 0;
                for (int j = 0; j < i; j++) {
                    if (lines.isInScene(j, i, back)) {
                        size++;
                        mask = mask | bitOf(lines.templateOf.at(j));
                    }
                }
                sizes.put(i, size);
                masks.put(i, mask);
            }
        }

        private static int bitOf(int template) {
            return template < 0 ? 0 : 1 << template;
        }

        private static int pair(int template, int other) {
            return template * MOST_TEMPLATES + other;
        }

        void tally(Lines lines, int templateNumber) {
            together.clear();
            all.clear();
            lineNumbers.clear();
            for (int i = 0; i < lines.learned; i++) {
                int template = lines.templateOf.at(i);
                lineNumbers.increase(template);
                for (int c = 0; c < templateNumber; c++) {
                    if ((masks.at(i) & bitOf(c)) != 0) {
                        all.increase(c);
                        // A line of none makes no pair: its index is below 0.
                        together.increase(pair(template, c));
                    }
                }
            }
        }

        void rankCauses(int templateNumber, int learned) {
            for (int e = 0; e < templateNumber; e++) {
                int of = lineNumbers.at(e);
                causeNumbers.put(e, 0);
                for (int c = 0; c < templateNumber; c++) {
                    int score = quotient(1000 * hits(e, c), of) - quotient(1000 * rest(e, c), learned - of);
                    scores.put(pair(e, c), score);
                    if (c != e && score > 0) {
                        enter(e, c, score);
                    }
                }
            }
        }

        /** Causes come with rising numbers, so an equal score stays ahead. */
        private void enter(int template, int other, int score) {
            int place = causeNumbers.at(template);
            while (place > 0 && score(template, causeOf(template, place - 1)) < score) {
                ranking.put(pair(template, place), causeOf(template, place - 1));
                place--;
            }
            ranking.put(pair(template, place), other);
            causeNumbers.increase(template);
        }

        int causeOf(int template, int place) {
            return ranking.at(pair(template, place));
        }

        int hits(int template, int other) {
            return together.at(pair(template, other));
        }

        int rest(int template, int other) {
            return all.at(other) - hits(template, other);
        }

        int score(int template, int other) {
            return scores.at(pair(template, other));
        }

        int lineBehind(Lines lines, int line, int back) {
            int template = lines.templateOf.at(line);
            for (int place = 0; place < causeNumbers.at(template); place++) {
                int other = causeOf(template, place);
                if ((masks.at(line) & bitOf(other)) != 0) {
                    return lastInScene(lines, line, other, back);
                }
            }
            return NONE;
        }

        private static int lastInScene(Lines lines, int line, int template, int back) {
            for (int j = line - 1; j >= 0; j--) {
                if (lines.templateOf.at(j) == template && lines.isInScene(j, line, back)) {
                    return j;
                }
            }
            return NONE;
        }
    }
}
