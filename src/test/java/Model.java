import java.util.ArrayList;
import java.util.Comparator;
import java.util.List;
import java.util.NoSuchElementException;
import java.util.Set;
import java.util.TreeSet;

/** The document's words put into sets, without a thought for speed: what ModelTest compares with. */
final class Model {
    private record Commit(int number, int time, int key, List<Integer> parents) {
    }

    private static final Comparator<Commit> THE_ORDER = Comparator.comparing(Commit::time).reversed()
            .thenComparing(Commit::key).thenComparing(Commit::number);

    private final List<Commit> commits = new ArrayList<>();
    private final List<Set<Integer>> tips = List.of(new TreeSet<>(), new TreeSet<>());

    int add(int time, int key, int a, int b, int c) {
        List<Integer> parents = new ArrayList<>();
        for (int parent : new int[] {a, b, c}) {
            need(parent >= -1 && parent < commits.size());
            if (parent != -1) {
                parents.add(parent);
            }
        }
        commits.add(new Commit(commits.size(), time, key, parents));
        return commits.size() - 1;
    }

    int under(int c, int p) {
        needCommit(c);
        need(p >= 0 && p < c);
        List<Integer> parents = commits.get(c).parents();
        if (isParent(c) || parents.size() == 4) {
            throw new IllegalStateException();
        }
        parents.add(p);
        return parents.size();
    }

    void tip(int h, int c, boolean so) {
        need(h == 0 || h == 1);
        needCommit(c);
        if (so) {
            tips.get(h).add(c);
        } else {
            tips.get(h).remove(c);
        }
    }

    boolean reaches(int b, int a) {
        needCommit(b);
        needCommit(a);
        return reachable(Set.of(b)).contains(a);
    }

    int base(int a, int b, int i) {
        needCommit(a);
        needCommit(b);
        Set<Integer> common = reachable(Set.of(a));
        common.retainAll(reachable(Set.of(b)));
        Set<Integer> bases = new TreeSet<>(common);
        for (int number : common) {
            bases.removeAll(reachable(commits.get(number).parents()));
        }
        return pick(sorted(bases, THE_ORDER), i);
    }

    int log(int c, int i) {
        needCommit(c);
        Set<Integer> untold = reachable(Set.of(c));
        List<Integer> log = new ArrayList<>();
        while (!untold.isEmpty()) {
            Set<Integer> free = new TreeSet<>(untold);
            for (int number : untold) {
                free.removeAll(commits.get(number).parents());
            }
            int next = sorted(free, THE_ORDER).get(0);
            log.add(next);
            untold.remove(next);
        }
        return pick(log, i);
    }

    int back(int c, int n) {
        needCommit(c);
        need(n >= 0);
        List<Integer> line = new ArrayList<>(List.of(c));
        Commit last = commits.get(c);
        while (!last.parents().isEmpty()) {
            last = commits.get(last.parents().get(0));
            line.add(last.number());
        }
        return pick(line, n);
    }

    int sent(int h, int i) {
        need(h == 0 || h == 1);
        Set<Integer> sent = reachable(tips.get(h));
        sent.removeAll(common());
        return pick(sorted(sent, Comparator.comparing(this::generation)
                .thenComparing(Commit::key).thenComparing(Commit::number)), i);
    }

    int told(int c, int what) {
        needCommit(c);
        need(what >= 0 && what <= 4);
        Commit commit = commits.get(c);
        return switch (what) {
            case 0 -> commit.time();
            case 1 -> commit.key();
            case 2 -> commit.parents().size();
            case 3 -> generation(commit);
            default -> (tips.get(0).contains(c) ? 1 : 0) + (tips.get(1).contains(c) ? 1 : 0);
        };
    }

    int count(int what) {
        return switch (what) {
            case 0 -> commits.size();
            case 1 -> tips.get(0).size();
            case 2 -> tips.get(1).size();
            case 3 -> commits.stream().mapToInt(this::generation).max().orElse(0);
            case 4 -> (int) commits.stream().filter(commit -> !isParent(commit.number())).count();
            case 5 -> common().size();
            case 6 -> 0;
            default -> -1;
        };
    }

    private static void need(boolean good) {
        if (!good) {
            throw new IllegalArgumentException();
        }
    }

    private void needCommit(int c) {
        need(c >= 0 && c < commits.size());
    }

    private static int pick(List<Integer> row, int i) {
        if (i == -1) {
            return row.size();
        }
        if (i < 0 || i >= row.size()) {
            throw new NoSuchElementException();
        }
        return row.get(i);
    }

    private boolean isParent(int c) {
        return commits.stream().anyMatch(commit -> commit.parents().contains(c));
    }

    private int generation(Commit commit) {
        int greatest = 0;
        for (int parent : new TreeSet<>(commit.parents())) {
            greatest = Math.max(greatest, generation(commits.get(parent)));
        }
        return greatest + 1;
    }

    private Set<Integer> common() {
        Set<Integer> common = reachable(tips.get(0));
        common.retainAll(reachable(tips.get(1)));
        return common;
    }

    private Set<Integer> reachable(Iterable<Integer> from) {
        Set<Integer> reached = new TreeSet<>();
        for (int number : from) {
            reach(number, reached);
        }
        return reached;
    }

    private void reach(int number, Set<Integer> reached) {
        if (reached.add(number)) {
            for (int parent : commits.get(number).parents()) {
                reach(parent, reached);
            }
        }
    }

    private List<Integer> sorted(Set<Integer> numbers, Comparator<Commit> order) {
        return numbers.stream().map(commits::get).sorted(order).map(Commit::number).toList();
    }
}
