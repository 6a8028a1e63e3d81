import java.util.ArrayList;
import java.util.HashMap;
import java.util.HashSet;
import java.util.List;
import java.util.Map;
import java.util.Set;
import java.util.TreeMap;
import java.util.TreeSet;
import java.util.regex.Matcher;
import java.util.regex.Pattern;

/**
 * The document told a second time, without care for speed or room: every call answers what is due,
 * or the simple name of the exception that is due.
 */
final class YardModel {
    private static final String ARGUMENT = "IllegalArgumentException";
    private static final String STATE = "IllegalStateException";
    private static final String NO_SUCH = "NoSuchElementException";
    private static final String BOUNDS = "IndexOutOfBoundsException";

    private record Need(int of, String version, boolean optional) { }

    private record Cls(int value, int refers) { }

    private record Extension(int owner, int point, double weight, int name) { }

    private record Found(int owner, int value, int refers) { }

    private static final class Archive {
        final String version;
        final String hostNeeded;
        final List<Need> needs = new ArrayList<>();
        final Map<Integer, Cls> classes = new HashMap<>();
        final List<Extension> extensions = new ArrayList<>();
        int masked;
        boolean first;
        boolean fails;

        Archive(String version, String hostNeeded) {
            this.version = version;
            this.hostNeeded = hostNeeded;
        }
    }

    private final Map<Integer, Archive> archives = new TreeMap<>();
    private final Map<Integer, Integer> stands = new HashMap<>();
    private final Set<Integer> disabled = new HashSet<>();
    private final List<Integer> active = new ArrayList<>();
    private final Map<Integer, Integer> causes = new HashMap<>();
    private final Map<Integer, Integer> blamed = new HashMap<>();
    private final Map<Integer, Object> kept = new HashMap<>();
    private List<Integer> order = new ArrayList<>();
    private String hostVersion = "1";
    private boolean running;
    private int searches;
    private int hits;
    private int starts;
    private int stops;

    static String text(long version) {
        StringBuilder text = new StringBuilder();
        for (long rest = version; (rest & 255) != 0; rest >>>= 8) {
            text.append((char) (rest & 255));
        }
        return text.toString();
    }

    private static boolean isVersion(long version) {
        return text(version).matches("[0-9a-z]+([.-][0-9a-z]+)*");
    }

    private static List<String> parts(String version) {
        List<String> parts = new ArrayList<>();
        Matcher matcher = Pattern.compile("[0-9]+|[a-z]+").matcher(version);
        while (matcher.find()) {
            parts.add(matcher.group());
        }
        return parts;
    }

    private static int compareParts(String one, String other) {
        boolean number = Character.isDigit(one.charAt(0));
        boolean otherNumber = Character.isDigit(other.charAt(0));
        if (number && otherNumber) {
            return Integer.compare(Integer.parseInt(one), Integer.parseInt(other));
        }
        if (number || otherNumber) {
            return number ? 1 : -1;
        }
        List<String> low = List.of("alpha", "beta", "rc");
        if (low.contains(one) && low.contains(other)) {
            return Integer.signum(low.indexOf(one) - low.indexOf(other));
        }
        if (low.contains(one) || low.contains(other)) {
            return low.contains(one) ? -1 : 1;
        }
        return Integer.signum(one.compareTo(other));
    }

    private static int compareVersions(String one, String other) {
        List<String> parts = parts(one);
        List<String> otherParts = parts(other);
        for (int k = 0; k < Math.max(parts.size(), otherParts.size()); k++) {
            int order = compareParts(k < parts.size() ? parts.get(k) : "0", k < otherParts.size() ? otherParts.get(k) : "0");
            if (order != 0) {
                return order;
            }
        }
        return 0;
    }

    private static boolean outside(int x, int from, int to) {
        return x < from || x > to;
    }

    Object host(long version) {
        if (!isVersion(version)) {
            return ARGUMENT;
        }
        if (running) {
            return STATE;
        }
        int answer = compareVersions(text(version), hostVersion);
        hostVersion = text(version);
        return answer;
    }

    Object archive(int p, long version, long needed) {
        if (outside(p, 0, 11) || !isVersion(version) || !isVersion(needed)) {
            return ARGUMENT;
        }
        if (active.contains(p)) {
            return STATE;
        }
        archives.put(p, new Archive(text(version), text(needed)));
        Integer stood = stands.put(p, 1);
        return stood == null ? 0 : stood;
    }

    Object need(int p, int q, long version, boolean optional) {
        if (!archives.containsKey(p)) {
            return NO_SUCH;
        }
        List<Need> needs = archives.get(p).needs;
        if (outside(q, 0, 11) || q == p || !isVersion(version) || needs.stream().anyMatch(n -> n.of == q)) {
            return ARGUMENT;
        }
        if (active.contains(p)) {
            return STATE;
        }
        if (needs.size() == 4) {
            return BOUNDS;
        }
        needs.add(new Need(q, text(version), optional));
        return needs.size();
    }

    Object cls(int p, int name, int value, int refers) {
        if (!archives.containsKey(p)) {
            return NO_SUCH;
        }
        if (outside(name, 0, 15) || outside(refers, -1, 15)) {
            return ARGUMENT;
        }
        return archives.get(p).classes.put(name, new Cls(value, refers)) == null ? 0 : 1;
    }

    Object ways(int p, int masked, boolean first, boolean fails) {
        if (!archives.containsKey(p)) {
            return NO_SUCH;
        }
        if (outside(masked, 0, 65535)) {
            return ARGUMENT;
        }
        Archive archive = archives.get(p);
        int before = archive.masked;
        archive.masked = masked;
        archive.first = first;
        archive.fails = fails;
        return before;
    }

    Object extension(int p, int point, double weight, int name) {
        if (!archives.containsKey(p)) {
            return NO_SUCH;
        }
        if (outside(point, 0, 3) || outside(name, 0, 15)) {
            return ARGUMENT;
        }
        List<Extension> extensions = archives.get(p).extensions;
        if (extensions.size() == 4) {
            return BOUNDS;
        }
        extensions.add(new Extension(p, point, weight, name));
        return extensions.size();
    }

    Object enable(int p, boolean on) {
        if (!archives.containsKey(p)) {
            return NO_SUCH;
        }
        return on ? !disabled.remove(p) : disabled.add(p);
    }

    private boolean leadsBack(int from, int to, Set<Integer> been) {
        if (!archives.containsKey(from) || !been.add(from)) {
            return false;
        }
        for (Need need : archives.get(from).needs) {
            if (need.of == to || leadsBack(need.of, to, been)) {
                return true;
            }
        }
        return false;
    }

    private void resolve() {
        causes.clear();
        blamed.clear();
        for (int p : archives.keySet()) {
            if (disabled.contains(p)) {
                causes.put(p, 1);
            } else if (compareVersions(hostVersion, archives.get(p).hostNeeded) < 0) {
                causes.put(p, 2);
            } else if (leadsBack(p, p, new HashSet<>())) {
                causes.put(p, 3);
            }
        }
        int before;
        do {
            before = causes.size();
            for (int p : archives.keySet()) {
                if (!causes.containsKey(p)) {
                    blameNeed(p);
                }
            }
        } while (causes.size() > before);
        layOrder();
    }

    private void blameNeed(int p) {
        List<Need> needs = archives.get(p).needs;
        for (int k = 0; k < needs.size() && !causes.containsKey(p); k++) {
            Need need = needs.get(k);
            int cause = 0;
            if (!archives.containsKey(need.of)) {
                cause = 4;
            } else if (compareVersions(archives.get(need.of).version, need.version) < 0) {
                cause = 5;
            } else if (causes.containsKey(need.of)) {
                cause = 6;
            }
            if (!need.optional && cause != 0) {
                causes.put(p, cause);
                blamed.put(p, k);
            }
        }
    }

    private void layOrder() {
        Set<Integer> resolved = new TreeSet<>(archives.keySet());
        resolved.removeAll(causes.keySet());
        order = new ArrayList<>(resolved);
        List<Integer> laid = new ArrayList<>();
        while (!resolved.isEmpty()) {
            int least = -1;
            for (int p : resolved) {
                boolean ready = archives.get(p).needs.stream().allMatch(n -> !counts(n) || laid.contains(n.of));
                if (ready && least < 0) {
                    least = p;
                }
            }
            laid.add(least);
            resolved.remove(least);
        }
        order = laid;
    }

    private boolean counts(Need need) {
        return !need.optional || order.contains(need.of) && compareVersions(archives.get(need.of).version, need.version) >= 0;
    }

    private void begin(int p) {
        starts++;
        Archive archive = archives.get(p);
        boolean unmet = archive.needs.stream().anyMatch(n -> !n.optional && !active.contains(n.of));
        if (unmet || archive.fails) {
            stands.put(p, 3);
            return;
        }
        stands.put(p, 2);
        active.add(p);
        kept.values().removeIf(NO_SUCH::equals);
    }

    private void end(int p) {
        stands.put(p, 4);
        active.remove((Integer) p);
        stops++;
        kept.clear();
    }

    Object start() {
        if (running) {
            return STATE;
        }
        running = true;
        resolve();
        order.forEach(this::begin);
        return active.size();
    }

    Object load(int p) {
        if (!archives.containsKey(p)) {
            return NO_SUCH;
        }
        if (!running || active.contains(p)) {
            return STATE;
        }
        resolve();
        if (causes.containsKey(p)) {
            return causes.get(p);
        }
        begin(p);
        return active.contains(p) ? 0 : 7;
    }

    private int endWithThoseThatNeed(int p) {
        int ended = 0;
        for (int other : List.copyOf(active)) {
            boolean needsIt = archives.get(other).needs.stream().anyMatch(n -> !n.optional && n.of == p);
            if (needsIt && active.contains(other)) {
                ended += endWithThoseThatNeed(other);
            }
        }
        end(p);
        return ended + 1;
    }

    Object stop(int p) {
        return active.contains(p) ? endWithThoseThatNeed(p) : NO_SUCH;
    }

    Object shutdown() {
        if (!running) {
            return STATE;
        }
        running = false;
        int ended = active.size();
        List.copyOf(active).forEach(this::end);
        return ended;
    }

    private Found own(int p, int name) {
        Cls cls = archives.get(p).classes.get(name);
        return cls == null ? null : new Found(p, cls.value, cls.refers);
    }

    private Found throughNeeds(int p, int name) {
        for (Need need : archives.get(p).needs) {
            if (active.contains(need.of) && counts(need)) {
                Found found = own(need.of, name) != null ? own(need.of, name) : throughNeeds(need.of, name);
                if (found != null) {
                    return found;
                }
            }
        }
        return null;
    }

    private Found sees(int p, int name) {
        Archive archive = archives.get(p);
        boolean masked = (archive.masked & 1 << name) != 0;
        Found found = archive.first ? own(p, name) : null;
        if (found == null && !masked && name <= 1) {
            found = new Found(-1, 1000 + name, -1);
        }
        if (found == null && !masked) {
            found = throughNeeds(p, name);
        }
        return found == null ? own(p, name) : found;
    }

    Object see(int p, int name) {
        if (!active.contains(p)) {
            return NO_SUCH;
        }
        if (outside(name, 0, 15)) {
            return ARGUMENT;
        }
        Found found = sees(p, name);
        return found == null ? NO_SUCH : found.value;
    }

    Object link(int p, int name) {
        if (!active.contains(p)) {
            return NO_SUCH;
        }
        if (outside(name, 0, 15)) {
            return ARGUMENT;
        }
        List<Found> way = new ArrayList<>();
        Found found = sees(p, name);
        while (found != null) {
            way.add(found);
            if (found.refers < 0) {
                break;
            }
            if (way.size() == 16) {
                return STATE;
            }
            found = sees(found.owner, found.refers);
        }
        return found == null ? NO_SUCH : way.stream().mapToInt(Found::value).sum();
    }

    Object uber(int name) {
        if (outside(name, 0, 15)) {
            return ARGUMENT;
        }
        if (kept.containsKey(name)) {
            hits++;
            return kept.get(name);
        }
        searches++;
        Object found = NO_SUCH;
        if (name <= 1) {
            found = -1;
        } else {
            for (int p : active) {
                if (found == NO_SUCH && own(p, name) != null) {
                    found = p;
                }
            }
        }
        kept.put(name, found);
        return found;
    }

    private List<Extension> extensions(int point) {
        List<Extension> all = new ArrayList<>();
        for (int p : active) {
            for (Extension extension : archives.get(p).extensions) {
                if (extension.point == point && sees(p, extension.name) != null) {
                    all.add(extension);
                }
            }
        }
        all.sort((one, other) -> one.weight > other.weight ? -1 : one.weight < other.weight ? 1 : 0);
        return all;
    }

    Object extended(int point, int k) {
        if (outside(point, 0, 3)) {
            return ARGUMENT;
        }
        List<Extension> all = extensions(point);
        return k < 0 || k >= all.size() ? BOUNDS : all.get(k).owner;
    }

    Object weight(int point) {
        if (outside(point, 0, 3)) {
            return ARGUMENT;
        }
        double sum = 0;
        for (Extension extension : extensions(point)) {
            sum += extension.weight;
        }
        return sum;
    }

    Object look(int p, int what) {
        if (outside(p, 0, 11)) {
            return ARGUMENT;
        }
        return switch (what) {
            case 0 -> stands.getOrDefault(p, 0);
            case 1 -> causes.getOrDefault(p, 0);
            case 2 -> order.indexOf(p);
            case 3 -> blamed.getOrDefault(p, -1);
            case 4 -> active.indexOf(p);
            default -> ARGUMENT;
        };
    }

    Object compare(long one, long other) {
        return isVersion(one) && isVersion(other) ? (Object) compareVersions(text(one), text(other)) : ARGUMENT;
    }

    Object count(int what) {
        return switch (what) {
            case 0 -> archives.size();
            case 1 -> active.size();
            case 2 -> searches;
            case 3 -> hits;
            case 4 -> starts;
            case 5 -> stops;
            default -> ARGUMENT;
        };
    }
}
