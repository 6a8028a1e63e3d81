import java.util.Arrays;
import java.util.NoSuchElementException;

/** A host with plugins: see README.md, and the numbered promises of the document that it names. */
public final class PluginYard {
    public static final int NONE = 0, THERE = 1, ACTIVE = 2, FAILED = 3, STOPPED = 4;

    private static final int PLUGINS = 12;
    private static final int NAMES = 16;
    private static final int HOST_NAMES = 2;
    private static final int HOST_INT = 1000;
    private static final int POINTS = 4;
    private static final int MOST_NEEDS = 4;
    private static final int MOST_EXTENSIONS = 4;
    private static final int LONGEST_WAY = 16;
    private static final int ALL_MASKED = 65535;

    // Who has a class, where it is not a PLUGIN's number.
    private static final int HOST = -1;
    private static final int NOBODY = -2;

    private static final int NO_CAUSE = 0;
    private static final int DISABLED = 1;
    private static final int HOST_OLD = 2;
    private static final int CYCLE = 3;
    private static final int MISSING = 4;
    private static final int OLD = 5;
    private static final int BROKEN = 6;
    private static final int START_FAILED = 7;

    private final Plugin[] plugins;
    private final ActiveRow active;
    private final Resolver resolver;
    private final Sight sight;
    private final UberLoader uberLoader;
    private final Board board;
    private long hostVersion;
    private boolean running;
    private int starts;
    private int stops;

    public PluginYard() {
        plugins = new Plugin[PLUGINS];
        for (int p = 0; p < PLUGINS; p++) {
            plugins[p] = new Plugin();
        }
        active = new ActiveRow();
        resolver = new Resolver();
        sight = new Sight();
        uberLoader = new UberLoader();
        board = new Board();
        hostVersion = '1';
    }

    public int host(long version) throws IllegalArgumentException, IllegalStateException {
        requireVersion(version);
        if (running) {
            throw new IllegalStateException("the host runs");
        }
        int answer = Version.order(version, hostVersion);
        hostVersion = version;
        return answer;
    }

    public int archive(int p, long version, long needed) throws IllegalArgumentException, IllegalStateException {
        requirePlugin(p);
        requireVersion(version);
        requireVersion(needed);
        requireNotActive(p);
        int stood = plugins[p].stand;
        plugins[p].stand = THERE;
        plugins[p].archive.renew(version, needed);
        return stood;
    }

    public int need(int p, int q, long version, boolean optional) throws NoSuchElementException, IllegalArgumentException, IllegalStateException, IndexOutOfBoundsException {
        Archive archive = archiveOf(p);
        requirePlugin(q);
        requireVersion(version);
        if (q == p || archive.needs.isOf(q)) {
            throw new IllegalArgumentException("a plugin needs another one, and each but once");
        }
        requireNotActive(p);
        if (archive.needs.size >= MOST_NEEDS) {
            throw new IndexOutOfBoundsException("no further need");
        }
        archive.needs.add(q, version, optional);
        return archive.needs.size;
    }

    public int cls(int p, int name, int value, int refers) throws NoSuchElementException, IllegalArgumentException {
        Archive archive = archiveOf(p);
        requireName(name);
        if (refers < -1 || refers >= NAMES) {
            throw new IllegalArgumentException("no name to refer to");
        }
        int before = archive.has(name) ? 1 : 0;
        archive.putClass(name, value, refers);
        return before;
    }

    public int ways(int p, int masked, boolean first, boolean fails) throws NoSuchElementException, IllegalArgumentException {
        Archive archive = archiveOf(p);
        if (masked < 0 || masked > ALL_MASKED) {
            throw new IllegalArgumentException("no sum of names");
        }
        int before = archive.masked;
        archive.masked = masked;
        archive.first = first;
        archive.fails = fails;
        return before;
    }

    public int extension(int p, int point, double weight, int name) throws NoSuchElementException, IllegalArgumentException, IndexOutOfBoundsException {
        Archive archive = archiveOf(p);
        requirePoint(point);
        requireName(name);
        if (archive.extensions.size >= MOST_EXTENSIONS) {
            throw new IndexOutOfBoundsException("no further extension");
        }
        archive.extensions.add(point, weight, name);
        return archive.extensions.size;
    }

    public boolean enable(int p, boolean on) throws NoSuchElementException {
        requireThere(p);
        boolean before = plugins[p].enabled;
        plugins[p].enabled = on;
        return before;
    }

    public int start() throws IllegalStateException {
        if (running) {
            throw new IllegalStateException("the host runs");
        }
        running = true;
        resolver.resolve(plugins, hostVersion);
        for (int place = 0; place < resolver.size; place++) {
            begin(resolver.order[place]);
        }
        return active.size;
    }

    public int load(int p) throws NoSuchElementException, IllegalStateException {
        requireThere(p);
        requireRunning();
        requireNotActive(p);
        resolver.resolve(plugins, hostVersion);
        if (!plugins[p].resolved) {
            return plugins[p].cause;
        }
        begin(p);
        return isActive(p) ? NO_CAUSE : START_FAILED;
    }

    public int stop(int p) throws NoSuchElementException {
        requireActive(p);
        int going = withThoseThatNeed(p);
        return endAll(going);
    }

    public int shutdown() throws IllegalStateException {
        requireRunning();
        running = false;
        int everyPlugin = (1 << PLUGINS) - 1;
        return endAll(everyPlugin);
    }

    public int see(int p, int name) throws NoSuchElementException, IllegalArgumentException {
        requireActive(p);
        requireName(name);
        int owner = sight.ownerOf(plugins, p, name);
        requireSeen(owner);
        return intOf(owner, name);
    }

    public int link(int p, int name) throws NoSuchElementException, IllegalArgumentException, IllegalStateException {
        requireActive(p);
        requireName(name);
        int sum = 0;
        int looker = p;
        int wanted = name;
        for (int length = 0; length < LONGEST_WAY; length++) {
            int owner = sight.ownerOf(plugins, looker, wanted);
            requireSeen(owner);
            sum += intOf(owner, wanted);
            int next = referredBy(owner, wanted);
            if (next < 0) {
                return sum;
            }
            looker = owner;
            wanted = next;
        }
        // Whether the class too many would be seen does not matter: it is not looked for.
        throw new IllegalStateException("the way would be too long");
    }

    public int uber(int name) throws NoSuchElementException, IllegalArgumentException {
        requireName(name);
        int owner = uberLoader.ownerOf(plugins, active, name);
        requireSeen(owner);
        return owner;
    }

    public int extended(int point, int k) throws IndexOutOfBoundsException, IllegalArgumentException {
        requirePoint(point);
        fillBoard(point);
        if (k < 0 || k >= board.size) {
            throw new IndexOutOfBoundsException("no such extension");
        }
        return board.owners[k];
    }

    public double weight(int point) throws IllegalArgumentException {
        requirePoint(point);
        fillBoard(point);
        return board.total();
    }

    public int look(int p, int what) throws IllegalArgumentException {
        requirePlugin(p);
        Plugin plugin = plugins[p];
        switch (what) {
            case 0:
                return plugin.stand;
            case 1:
                return plugin.cause;
            case 2:
                return plugin.place;
            case 3:
                return plugin.blamed;
            case 4:
                return active.placeOf(p);
            default:
                throw new IllegalArgumentException("nothing to look at");
        }
    }

    public int compare(long one, long other) throws IllegalArgumentException {
        requireVersion(one);
        requireVersion(other);
        return Version.order(one, other);
    }

    public int count(int what) throws IllegalArgumentException {
        switch (what) {
            case 0:
                return archivesThere();
            case 1:
                return active.size;
            case 2:
                return uberLoader.searches;
            case 3:
                return uberLoader.hits;
            case 4:
                return starts;
            case 5:
                return stops;
            default:
                throw new IllegalArgumentException("nothing to count");
        }
    }

    private static void requirePlugin(int p) {
        if (!isPlugin(p)) {
            throw new IllegalArgumentException("no plugin");
        }
    }

    private static void requireName(int name) {
        if (name < 0 || name >= NAMES) {
            throw new IllegalArgumentException("no name");
        }
    }

    private static void requirePoint(int point) {
        if (point < 0 || point >= POINTS) {
            throw new IllegalArgumentException("no point");
        }
    }

    private static void requireVersion(long version) {
        if (!Version.isOne(version)) {
            throw new IllegalArgumentException("no version");
        }
    }

    private static void requireSeen(int owner) {
        if (owner == NOBODY) {
            throw new NoSuchElementException("no class of that name is seen");
        }
    }

    private void requireThere(int p) {
        if (!isPlugin(p) || plugins[p].stand == NONE) {
            throw new NoSuchElementException("no archive");
        }
    }

    private void requireActive(int p) {
        if (!isActive(p)) {
            throw new NoSuchElementException("not active");
        }
    }

    private void requireNotActive(int p) {
        if (isActive(p)) {
            throw new IllegalStateException("active");
        }
    }

    private void requireRunning() {
        if (!running) {
            throw new IllegalStateException("the host does not run");
        }
    }

    private Archive archiveOf(int p) {
        requireThere(p);
        return plugins[p].archive;
    }

    private static boolean isPlugin(int p) {
        return p >= 0 && p < PLUGINS;
    }

    private boolean isActive(int p) {
        return isPlugin(p) && plugins[p].stand == ACTIVE;
    }

    private int archivesThere() {
        int there = 0;
        for (int p = 0; p < PLUGINS; p++) {
            if (plugins[p].stand != NONE) {
                there++;
            }
        }
        return there;
    }

    private void begin(int p) {
        starts++;
        Archive archive = plugins[p].archive;
        if (archive.fails || !hasAllItNeeds(archive.needs)) {
            plugins[p].stand = FAILED;
            return;
        }
        plugins[p].stand = ACTIVE;
        active.add(p);
        uberLoader.forgetMisses();
    }

    private boolean hasAllItNeeds(Needs needs) {
        for (int k = 0; k < needs.size; k++) {
            if (!needs.optional[k] && !isActive(needs.of[k])) {
                return false;
            }
        }
        return true;
    }

    // One pass is enough: who NEEDS another became ACTIVE after it.
    private int withThoseThatNeed(int p) {
        int going = 1 << p;
        for (int place = 0; place < active.size; place++) {
            int other = active.row[place];
            if (plugins[other].archive.needs.mustHaveAnyOf(going)) {
                going |= 1 << other;
            }
        }
        return going;
    }

    private int endAll(int going) {
        int before = active.size;
        for (int place = before - 1; place >= 0; place--) {
            int p = active.row[place];
            if ((going >> p & 1) != 0) {
                plugins[p].stand = STOPPED;
                active.removeAt(place);
                uberLoader.forgetAll();
            }
        }
        int ended = before - active.size;
        stops += ended;
        return ended;
    }

    private int intOf(int owner, int name) {
        return owner == HOST ? HOST_INT + name : plugins[owner].archive.values[name];
    }

    private int referredBy(int owner, int name) {
        return owner == HOST ? -1 : plugins[owner].archive.refers[name];
    }

    private void fillBoard(int point) {
        board.size = 0;
        for (int place = 0; place < active.size; place++) {
            int p = active.row[place];
            Extensions extensions = plugins[p].archive.extensions;
            for (int k = 0; k < extensions.size; k++) {
                if (extensions.point[k] == point && sight.ownerOf(plugins, p, extensions.name[k]) != NOBODY) {
                    board.put(p, extensions.weight[k]);
                }
            }
        }
    }

    /** VERSIONS, letter by letter in a long. */
    private static final class Version {
        private static final int LETTERS = 8;
        private static final int END = 0, DIGIT = 1, LETTER = 2, PARTING = 3, OTHER = 4;

        // The ranks of PARTS as one scale: the three WORDS below the others, NUMBERS above all WORDS.
        private static final long RANK_ALPHA = 1, RANK_BETA = 2, RANK_RC = 3;
        private static final long RANK_NUMBERS = 0x7b00000000000000L;
        private static final long WORD_ALPHA = 0x616c706861000000L;
        private static final long WORD_BETA = 0x6265746100000000L;
        private static final long WORD_RC = 0x7263000000000000L;

        static boolean isOne(long version) {
            int before = PARTING;
            for (int at = 0; at < LETTERS; at++) {
                int kind = kindAt(version, at);
                if (kind == END) {
                    break;
                }
                if (kind == OTHER || kind == PARTING && before == PARTING) {
                    return false;
                }
                before = kind;
            }
            return before != PARTING;
        }

        static int order(long one, long other) {
            int at = 0;
            int otherAt = 0;
            for (int part = 0; part < LETTERS; part++) {
                int end = endOfPart(one, at);
                int otherEnd = endOfPart(other, otherAt);
                long rank = rankOf(one, at, end);
                long otherRank = rankOf(other, otherAt, otherEnd);
                if (rank != otherRank) {
                    return rank < otherRank ? -1 : 1;
                }
                at = nextPart(one, end);
                otherAt = nextPart(other, otherEnd);
            }
            return 0;
        }

        private static int letterAt(long version, int at) {
            return at < LETTERS ? (int) (version >>> 8 * at) & 255 : 0;
        }

        private static int kindAt(long version, int at) {
            int letter = letterAt(version, at);
            if (letter == 0) {
                return END;
            }
            if (letter >= '0' && letter <= '9') {
                return DIGIT;
            }
            if (letter >= 'a' && letter <= 'z') {
                return LETTER;
            }
            return letter == '.' || letter == '-' ? PARTING : OTHER;
        }

        private static int endOfPart(long version, int from) {
            int kind = kindAt(version, from);
            int end = from;
            while (kind != END && end < LETTERS && kindAt(version, end) == kind) {
                end++;
            }
            return end;
        }

        private static int nextPart(long version, int end) {
            return kindAt(version, end) == PARTING ? end + 1 : end;
        }

        // Where no PART is left, the number of no digits is the 0 that stands for it.
        private static long rankOf(long version, int from, int end) {
            if (kindAt(version, from) == LETTER) {
                return rankOfWord(version, from, end);
            }
            long number = 0;
            for (int at = from; at < end; at++) {
                number = 10 * number + letterAt(version, at) - '0';
            }
            return RANK_NUMBERS + number;
        }

        // The first letter stands highest, so that a beginning is below what it is the beginning of.
        private static long rankOfWord(long version, int from, int end) {
            long word = 0;
            for (int at = from; at < end; at++) {
                word |= (long) letterAt(version, at) << 8 * (LETTERS - 1 - (at - from));
            }
            if (word == WORD_ALPHA) {
                return RANK_ALPHA;
            }
            if (word == WORD_BETA) {
                return RANK_BETA;
            }
            return word == WORD_RC ? RANK_RC : word;
        }
    }

    /** A PLUGIN: what outlives its ARCHIVE, and how it was RESOLVED last. */
    private static final class Plugin {
        final Archive archive = new Archive();
        int stand = NONE;
        boolean enabled = true;
        boolean resolved = false;
        int cause = NO_CAUSE;
        int place = -1;
        int blamed = -1;
    }

    /** An ARCHIVE; its rows are used again by the one that comes instead of it. */
    private static final class Archive {
        final Needs needs = new Needs();
        final Extensions extensions = new Extensions();
        final int[] values = new int[NAMES];
        final int[] refers = new int[NAMES];
        long version;
        long hostNeeded;
        int ownNames;
        int masked;
        boolean first;
        boolean fails;

        void renew(long newVersion, long newHostNeeded) {
            version = newVersion;
            hostNeeded = newHostNeeded;
            needs.size = 0;
            extensions.size = 0;
            ownNames = 0;
            masked = 0;
            first = false;
            fails = false;
        }

        void putClass(int name, int value, int referred) {
            ownNames |= 1 << name;
            values[name] = value;
            refers[name] = referred;
        }

        boolean has(int name) {
            return (ownNames >> name & 1) != 0;
        }

        boolean masks(int name) {
            return (masked >> name & 1) != 0;
        }
    }

    /** The NEEDS of an ARCHIVE, in their order; what is old and what COUNTS is as RESOLVING left it. */
    private static final class Needs {
        final int[] of = new int[MOST_NEEDS];
        final long[] version = new long[MOST_NEEDS];
        final boolean[] optional = new boolean[MOST_NEEDS];
        final boolean[] old = new boolean[MOST_NEEDS];
        final boolean[] counts = new boolean[MOST_NEEDS];
        int size;

        void add(int q, long fromVersion, boolean isOptional) {
            of[size] = q;
            version[size] = fromVersion;
            optional[size] = isOptional;
            size++;
        }

        boolean isOf(int q) {
            for (int k = 0; k < size; k++) {
                if (of[k] == q) {
                    return true;
                }
            }
            return false;
        }

        boolean mustHaveAnyOf(int set) {
            for (int k = 0; k < size; k++) {
                if (!optional[k] && (set >> of[k] & 1) != 0) {
                    return true;
                }
            }
            return false;
        }
    }

    /** The EXTENSIONS of an ARCHIVE, as they stand. */
    private static final class Extensions {
        final int[] point = new int[MOST_EXTENSIONS];
        final double[] weight = new double[MOST_EXTENSIONS];
        final int[] name = new int[MOST_EXTENSIONS];
        int size;

        void add(int toPoint, double itsWeight, int className) {
            point[size] = toPoint;
            weight[size] = itsWeight;
            name[size] = className;
            size++;
        }
    }

    /** Those that are ACTIVE, in the order in which they became so. */
    private static final class ActiveRow {
        final int[] row = new int[PLUGINS];
        int size;

        void add(int p) {
            if (size < PLUGINS) {
                row[size] = p;
                size++;
            }
        }

        void removeAt(int place) {
            for (int next = place + 1; next < size; next++) {
                row[next - 1] = row[next];
            }
            size--;
        }

        int placeOf(int p) {
            for (int place = 0; place < size; place++) {
                if (row[place] == p) {
                    return place;
                }
            }
            return -1;
        }
    }

    /** RESOLVING: the CAUSE of each that is there, and the ORDER of those that have none. */
    private static final class Resolver {
        final int[] order = new int[PLUGINS];
        int size;
        private final int[] reached = new int[PLUGINS];

        void resolve(Plugin[] plugins, long hostVersion) {
            reachAlongNeeds(plugins);
            for (int p = 0; p < PLUGINS; p++) {
                findOldOnes(plugins, plugins[p].archive.needs);
                plugins[p].blamed = -1;
                plugins[p].cause = plugins[p].stand == NONE ? NO_CAUSE : causeOfItsOwn(plugins[p], p, hostVersion);
            }
            boolean changed = true;
            for (int pass = 0; changed && pass <= PLUGINS; pass++) {
                changed = spreadCauses(plugins);
            }
            for (int p = 0; p < PLUGINS; p++) {
                plugins[p].resolved = plugins[p].stand != NONE && plugins[p].cause == NO_CAUSE;
            }
            for (int p = 0; p < PLUGINS; p++) {
                findThoseThatCount(plugins, plugins[p].archive.needs);
            }
            layOrder(plugins);
        }

        private static void findOldOnes(Plugin[] plugins, Needs needs) {
            for (int k = 0; k < needs.size; k++) {
                Plugin needed = plugins[needs.of[k]];
                needs.old[k] = needed.stand != NONE && Version.order(needed.archive.version, needs.version[k]) < 0;
            }
        }

        private static void findThoseThatCount(Plugin[] plugins, Needs needs) {
            for (int k = 0; k < needs.size; k++) {
                needs.counts[k] = !needs.optional[k] || plugins[needs.of[k]].resolved && !needs.old[k];
            }
        }

        private void reachAlongNeeds(Plugin[] plugins) {
            for (int p = 0; p < PLUGINS; p++) {
                reached[p] = plugins[p].stand == NONE ? 0 : neededBy(plugins[p].archive.needs);
            }
            for (int between = 0; between < PLUGINS; between++) {
                for (int p = 0; p < PLUGINS; p++) {
                    if ((reached[p] >> between & 1) != 0) {
                        reached[p] |= reached[between];
                    }
                }
            }
        }

        private static int neededBy(Needs needs) {
            int set = 0;
            for (int k = 0; k < needs.size; k++) {
                set |= 1 << needs.of[k];
            }
            return set;
        }

        private int causeOfItsOwn(Plugin plugin, int p, long hostVersion) {
            if (!plugin.enabled) {
                return DISABLED;
            }
            if (Version.order(hostVersion, plugin.archive.hostNeeded) < 0) {
                return HOST_OLD;
            }
            return (reached[p] >> p & 1) != 0 ? CYCLE : NO_CAUSE;
        }

        private static boolean spreadCauses(Plugin[] plugins) {
            boolean changed = false;
            for (int p = 0; p < PLUGINS; p++) {
                Plugin plugin = plugins[p];
                if (plugin.stand != NONE && plugin.cause == NO_CAUSE && blameNeed(plugins, plugin)) {
                    changed = true;
                }
            }
            return changed;
        }

        private static boolean blameNeed(Plugin[] plugins, Plugin plugin) {
            Needs needs = plugin.archive.needs;
            for (int k = 0; k < needs.size; k++) {
                int cause = needs.optional[k] ? NO_CAUSE : causeThrough(plugins[needs.of[k]], needs.old[k]);
                if (cause != NO_CAUSE) {
                    plugin.cause = cause;
                    plugin.blamed = k;
                    return true;
                }
            }
            return false;
        }

        private static int causeThrough(Plugin needed, boolean isOld) {
            if (needed.stand == NONE) {
                return MISSING;
            }
            if (isOld) {
                return OLD;
            }
            return needed.cause != NO_CAUSE ? BROKEN : NO_CAUSE;
        }

        private void layOrder(Plugin[] plugins) {
            for (int p = 0; p < PLUGINS; p++) {
                plugins[p].place = -1;
            }
            size = 0;
            for (int place = 0; place < PLUGINS; place++) {
                int p = leastThatIsReady(plugins);
                if (p < 0) {
                    return;
                }
                plugins[p].place = place;
                order[place] = p;
                size++;
            }
        }

        private static int leastThatIsReady(Plugin[] plugins) {
            for (int p = 0; p < PLUGINS; p++) {
                if (plugins[p].resolved && plugins[p].place < 0 && isReady(plugins, plugins[p].archive.needs)) {
                    return p;
                }
            }
            return -1;
        }

        private static boolean isReady(Plugin[] plugins, Needs needs) {
            for (int k = 0; k < needs.size; k++) {
                if (needs.counts[k] && plugins[needs.of[k]].place < 0) {
                    return false;
                }
            }
            return true;
        }
    }

    /** What a PLUGIN SEES. */
    private static final class Sight {
        // Who was looked through in vain: without it a name would be sought once for each way to it.
        private final boolean[] tried = new boolean[PLUGINS];

        int ownerOf(Plugin[] plugins, int p, int name) {
            Archive archive = plugins[p].archive;
            if (archive.first && archive.has(name)) {
                return p;
            }
            int owner = archive.masks(name) ? NOBODY : ownerElsewhere(plugins, p, name);
            return owner == NOBODY && archive.has(name) ? p : owner;
        }

        private int ownerElsewhere(Plugin[] plugins, int p, int name) {
            if (name < HOST_NAMES) {
                return HOST;
            }
            for (int q = 0; q < PLUGINS; q++) {
                tried[q] = false;
            }
            return throughNeeds(plugins, p, name, tried, 0);
        }

        // Only what the one that looks has MASKED counts; what those between have MASKED does not.
        private static int throughNeeds(Plugin[] plugins, int p, int name, boolean[] tried, int depth) {
            if (tried[p] || depth >= PLUGINS) {
                return NOBODY;
            }
            tried[p] = true;
            Needs needs = plugins[p].archive.needs;
            for (int k = 0; k < needs.size; k++) {
                int q = needs.of[k];
                if (needs.counts[k] && plugins[q].stand == ACTIVE) {
                    int owner = plugins[q].archive.has(name) ? q : throughNeeds(plugins, q, name, tried, depth + 1);
                    if (owner != NOBODY) {
                        return owner;
                    }
                }
            }
            return NOBODY;
        }
    }

    /** THE UBER LOADER, and what it keeps. */
    private static final class UberLoader {
        private static final int NOT_KEPT = -3;

        int searches;
        int hits;
        private final int[] kept = new int[NAMES];

        UberLoader() {
            Arrays.fill(kept, NOT_KEPT);
        }

        int ownerOf(Plugin[] plugins, ActiveRow active, int name) {
            if (kept[name] != NOT_KEPT) {
                hits++;
                return kept[name];
            }
            searches++;
            kept[name] = search(plugins, active, name);
            return kept[name];
        }

        void forgetMisses() {
            for (int name = 0; name < NAMES; name++) {
                if (kept[name] == NOBODY) {
                    kept[name] = NOT_KEPT;
                }
            }
        }

        void forgetAll() {
            Arrays.fill(kept, NOT_KEPT);
        }

        private static int search(Plugin[] plugins, ActiveRow active, int name) {
            if (name < HOST_NAMES) {
                return HOST;
            }
            for (int place = 0; place < active.size; place++) {
                if (plugins[active.row[place]].archive.has(name)) {
                    return active.row[place];
                }
            }
            return NOBODY;
        }
    }

    /** The EXTENSIONS of one point, the greatest weight first; a row that is filled anew for each call. */
    private static final class Board {
        final int[] owners = new int[PLUGINS * MOST_EXTENSIONS];
        int size;
        private final double[] weights = new double[PLUGINS * MOST_EXTENSIONS];

        void put(int owner, double weight) {
            if (size >= owners.length) {
                return;
            }
            int at = size;
            while (at > 0 && weights[at - 1] < weight) {
                owners[at] = owners[at - 1];
                weights[at] = weights[at - 1];
                at--;
            }
            owners[at] = owner;
            weights[at] = weight;
            size++;
        }

        // No addition may answer NaN: a weight that is NaN is the sum itself, and of infinities that
        // have no sum the first one stays, which is the greater.
        double total() {
            double sum = 0;
            for (int k = 0; k < size; k++) {
                double weight = weights[k];
                if (weight != weight) {
                    return weight;
                }
                if (!haveNoSum(sum, weight)) {
                    sum += weight;
                }
            }
            return sum;
        }

        private static boolean haveNoSum(double greater, double less) {
            double greatest = 1.7976931348623157E308;
            return greater > greatest && less < -greatest;
        }
    }
}
