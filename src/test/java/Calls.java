import java.util.ArrayList;
import java.util.List;
import java.util.Map;
import java.util.Set;
import java.util.TreeMap;
import java.util.TreeSet;

/** Which method calls which, by their names. */
final class Calls {
    private final Map<String, Set<String>> calledBy = new TreeMap<>();

    void add(String caller, String called) {
        calledBy.computeIfAbsent(caller, name -> new TreeSet<>()).add(called);
    }

    /** The methods that call themselves, at once or through others. */
    Set<String> circles() {
        Set<String> circles = new TreeSet<>();
        for (String name : calledBy.keySet()) {
            if (reached(name).contains(name)) {
                circles.add(name);
            }
        }
        return circles;
    }

    private Set<String> reached(String from) {
        Set<String> reached = new TreeSet<>();
        List<String> open = new ArrayList<>(List.of(from));
        while (!open.isEmpty()) {
            for (String called : calledBy.getOrDefault(open.remove(open.size() - 1), Set.of())) {
                if (reached.add(called)) {
                    open.add(called);
                }
            }
        }
        return reached;
    }

    /** The longest chain of calls, without an end if there are circles: none is looked for then. */
    List<String> longest() {
        List<String> longest = List.of();
        for (String name : circles().isEmpty() ? calledBy.keySet() : Set.<String>of()) {
            List<String> chain = longestFrom(name);
            longest = chain.size() > longest.size() ? chain : longest;
        }
        return longest;
    }

    private List<String> longestFrom(String name) {
        List<String> longest = List.of();
        for (String called : calledBy.getOrDefault(name, Set.of())) {
            List<String> chain = longestFrom(called);
            longest = chain.size() > longest.size() ? chain : longest;
        }
        List<String> whole = new ArrayList<>(List.of(name));
        whole.addAll(longest);
        return whole;
    }
}
