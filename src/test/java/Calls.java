import java.util.LinkedHashSet;
import java.util.Map;
import java.util.Set;
import java.util.TreeMap;
import java.util.TreeSet;

/** Which method of a text calls which, by names of class and method. */
final class Calls {
    private final Map<String, Set<String>> callees = new TreeMap<>();

    void add(String caller, String callee) {
        callees.computeIfAbsent(caller, name -> new LinkedHashSet<>()).add(callee);
    }

    private Set<String> of(String caller) {
        return callees.getOrDefault(caller, Set.of());
    }

    /** All that a method comes to, itself only where it calls itself by others or alone. */
    private Set<String> reached(String from) {
        Set<String> reached = new TreeSet<>(of(from));
        Set<String> fresh = reached;
        while (!fresh.isEmpty()) {
            Set<String> next = new TreeSet<>();
            for (String method : fresh) {
                next.addAll(of(method));
            }
            next.removeAll(reached);
            reached.addAll(next);
            fresh = next;
        }
        return reached;
    }

    /** Those that call themselves or one another, group by group. */
    Set<String> recursions() {
        Set<String> groups = new TreeSet<>();
        for (String method : callees.keySet()) {
            if (reached(method).contains(method)) {
                groups.add(group(method).toString());
            }
        }
        return groups;
    }

    private Set<String> group(String method) {
        Set<String> group = new TreeSet<>(Set.of(method));
        for (String other : reached(method)) {
            if (reached(other).contains(method)) {
                group.add(other);
            }
        }
        return group;
    }

    /** How many methods stand open at once where those that call one another count as one. */
    int deepest() {
        int deepest = 0;
        Map<String, Integer> known = new TreeMap<>();
        for (String method : callees.keySet()) {
            deepest = Math.max(deepest, depth(method, known));
        }
        return deepest;
    }

    private int depth(String method, Map<String, Integer> known) {
        Integer depth = known.get(method);
        if (depth == null) {
            int below = 0;
            Set<String> group = group(method);
            for (String member : group) {
                for (String callee : of(member)) {
                    below = group.contains(callee) ? below : Math.max(below, depth(callee, known));
                }
            }
            depth = below + 1;
            known.put(method, depth);
        }
        return depth;
    }
}
