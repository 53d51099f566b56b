import java.util.ArrayList;
import java.util.HashMap;
import java.util.HashSet;
import java.util.List;
import java.util.Map;
import java.util.NoSuchElementException;
import java.util.Set;
import java.util.TreeSet;

/** The document read a second time, with no care for speed: values by recursion, loops by search. */
final class Model {
    record Part(int kind, int out, int a, int b, int c) {
        List<Integer> inputs() {
            switch (kind) {
                case 0: return List.of();
                case 1: case 8: return List.of(a);
                case 5: return List.of(a, b, c);
                default: return List.of(a, b);
            }
        }

        List<Integer> needs() {
            return kind == 8 ? List.of() : inputs();
        }

        boolean isIn(int nets) {
            if (kind < 0 || kind > 8) {
                return false;
            }
            List<Integer> named = new ArrayList<>(inputs());
            named.add(out);
            for (int net : named) {
                if (net < 0 || net >= nets) {
                    return false;
                }
            }
            return kind != 8 || b >= 0 && b <= 1 && c >= 0 && c <= 2;
        }
    }

    private final List<Part> cells = new ArrayList<>();
    private final List<Integer> held = new ArrayList<>();
    private final List<List<Part>> templates = List.of(new ArrayList<>(), new ArrayList<>());
    private final Map<Integer, Integer> stuck = new HashMap<>();
    private Map<Integer, Integer> values = new HashMap<>();
    private Map<Integer, Integer> turns = new HashMap<>();
    private int nets = 40;
    private boolean built;
    private int settlings;

    int cell(int kind, int out, int a, int b, int c) {
        Part made = new Part(kind, out, a, b, c);
        if (!made.isIn(nets)) {
            throw new IllegalArgumentException();
        }
        List<Part> all = new ArrayList<>(cells);
        all.add(made);
        if (!driversAreFine(all)) {
            throw new UnsupportedOperationException();
        }
        if (all.size() > 60) {
            throw new IllegalStateException();
        }
        make(List.of(made));
        return cells.size() - 1;
    }

    int part(int template, int kind, int out, int a, int b, int c) {
        Part made = new Part(kind, out, a, b, c);
        if (template < 0 || template > 1 || kind == 0 || !made.isIn(10)) {
            throw new IllegalArgumentException();
        }
        if (templates.get(template).size() == 10) {
            throw new IllegalStateException();
        }
        templates.get(template).add(made);
        return templates.get(template).size();
    }

    int instance(int template, int x, int y) {
        if (template < 0 || template > 1 || x < 0 || x >= nets || y < 0 || y >= nets) {
            throw new IllegalArgumentException();
        }
        Set<Integer> named = new TreeSet<>();
        for (Part part : templates.get(template)) {
            named.add(part.out);
            named.addAll(part.inputs());
        }
        named.remove(0);
        named.remove(1);
        Map<Integer, Integer> place = new HashMap<>(Map.of(0, x, 1, y));
        for (int local : named) {
            place.put(local, nets + place.size() - 2);
        }
        List<Part> made = new ArrayList<>();
        for (Part part : templates.get(template)) {
            int inputs = part.inputs().size();
            made.add(new Part(part.kind, place.get(part.out), place.get(part.a),
                    inputs > 1 ? place.get(part.b) : part.b, inputs > 2 ? place.get(part.c) : part.c));
        }
        List<Part> all = new ArrayList<>(cells);
        all.addAll(made);
        if (!driversAreFine(all)) {
            throw new UnsupportedOperationException();
        }
        if (all.size() > 60 || nets + named.size() > 80) {
            throw new IllegalStateException();
        }
        nets += named.size();
        make(made);
        return nets;
    }

    int build() {
        if (!loops().isEmpty()) {
            throw new IllegalStateException();
        }
        int greatest = 0;
        Map<Integer, Integer> known = new HashMap<>();
        for (int net = 0; net < nets; net++) {
            greatest = Math.max(greatest, levelOf(net, known));
        }
        if (greatest > 30) {
            throw new IllegalStateException();
        }
        if (!built) {
            built = true;
            settle();
        }
        return greatest;
    }

    int loop() {
        Set<Integer> found = loops();
        if (found.isEmpty()) {
            throw new NoSuchElementException();
        }
        return found.iterator().next();
    }

    int set(int cell, int value) {
        if (cell < 0 || cell >= cells.size() || cells.get(cell).kind != 0) {
            throw new NoSuchElementException();
        }
        if (value < 0 || value > 3) {
            throw new IllegalArgumentException();
        }
        mustBeBuilt();
        held.set(cell, value);
        settle();
        return value(cells.get(cell).out);
    }

    int tick(int clock) {
        if (clock < 0 || clock > 1) {
            throw new IllegalArgumentException();
        }
        mustBeBuilt();
        int changed = 0;
        for (int i = 0; i < cells.size(); i++) {
            Part cell = cells.get(i);
            if (cell.kind == 8 && cell.b == clock) {
                int taken = Math.min(values.get(cell.a), 2);
                changed += taken == held.get(i) ? 0 : 1;
                held.set(i, taken);
            }
        }
        settle();
        return changed;
    }

    int stick(int net, int value) {
        mustBeThere(net);
        if (value < -1 || value > 2) {
            throw new IllegalArgumentException();
        }
        Integer before = value == -1 ? stuck.remove(net) : stuck.put(net, value);
        if (built) {
            settle();
        }
        return (before == null ? -1 : before) == value ? 0 : 1;
    }

    int value(int net) {
        mustBeThere(net);
        return values.getOrDefault(net, 2);
    }

    int level(int net) {
        mustBeThere(net);
        mustBeBuilt();
        return levelOf(net, new HashMap<>());
    }

    int flips(int net) {
        mustBeThere(net);
        return turns.getOrDefault(net, 0);
    }

    int state(int cell) {
        if (cell < 0 || cell >= cells.size() || cells.get(cell).kind < 7) {
            throw new NoSuchElementException();
        }
        return held.get(cell);
    }

    int reset() {
        int sum = turns.values().stream().mapToInt(Integer::intValue).sum();
        for (int i = 0; i < cells.size(); i++) {
            if (cells.get(i).kind != 0) {
                held.set(i, first(cells.get(i)));
            }
        }
        values.clear();
        turns.clear();
        stuck.clear();
        if (built) {
            settle();
        }
        return sum;
    }

    int count(int what) {
        switch (what) {
            case 0: return nets;
            case 1: return cells.size();
            case 2: return (int) cells.stream().filter(cell -> cell.kind == 8).count();
            case 3: return built ? 1 : 0;
            case 4: return netsWith(0) + netsWith(1);
            case 5: return netsWith(2);
            case 6: return netsWith(3);
            case 7: return settlings;
            default: throw new IllegalArgumentException();
        }
    }

    private int netsWith(int asked) {
        int found = 0;
        for (int net = 0; net < nets; net++) {
            found += value(net) == asked ? 1 : 0;
        }
        return found;
    }

    private void mustBeThere(int net) {
        if (net < 0 || net >= nets) {
            throw new NoSuchElementException();
        }
    }

    private void mustBeBuilt() {
        if (!built) {
            throw new IllegalStateException();
        }
    }

    private void make(List<Part> made) {
        for (Part part : made) {
            cells.add(part);
            held.add(first(part));
        }
        built = false;
    }

    private static int first(Part part) {
        return part.kind == 8 ? part.c : 2;
    }

    private static boolean driversAreFine(List<Part> all) {
        Map<Integer, Integer> kindOn = new HashMap<>();
        for (Part part : all) {
            Integer before = kindOn.put(part.out, part.kind);
            if (before != null && (before != 6 || part.kind != 6)) {
                return false;
            }
        }
        return true;
    }

    private Set<Integer> neededBy(int net) {
        Set<Integer> needed = new HashSet<>();
        for (Part cell : cells) {
            if (cell.out == net) {
                needed.addAll(cell.needs());
            }
        }
        return needed;
    }

    private Set<Integer> loops() {
        Set<Integer> found = new TreeSet<>();
        for (int net = 0; net < nets; net++) {
            Set<Integer> reached = neededBy(net);
            List<Integer> ahead = new ArrayList<>(reached);
            while (!ahead.isEmpty()) {
                for (int next : neededBy(ahead.remove(ahead.size() - 1))) {
                    if (reached.add(next)) {
                        ahead.add(next);
                    }
                }
            }
            if (reached.contains(net)) {
                found.add(net);
            }
        }
        return found;
    }

    private int levelOf(int net, Map<Integer, Integer> known) {
        if (known.containsKey(net)) {
            return known.get(net);
        }
        boolean driven = false;
        int greatest = 0;
        for (Part cell : cells) {
            driven |= cell.out == net;
        }
        for (int needed : neededBy(net)) {
            greatest = Math.max(greatest, levelOf(needed, known));
        }
        known.put(net, driven ? greatest + 1 : 0);
        return known.get(net);
    }

    private void settle() {
        Map<Integer, Integer> now = new HashMap<>();
        for (int net = 0; net < nets; net++) {
            find(net, now);
        }
        for (int i = 0; i < cells.size(); i++) {
            if (cells.get(i).kind == 7) {
                held.set(i, driven(i, now));
            }
        }
        for (int net = 0; net < nets; net++) {
            if (value(net) + now.get(net) == 1) {
                turns.merge(net, 1, Integer::sum);
            }
        }
        values = now;
        settlings++;
    }

    private int find(int net, Map<Integer, Integer> now) {
        if (now.containsKey(net)) {
            return now.get(net);
        }
        Set<Integer> driven = new HashSet<>();
        for (int i = 0; i < cells.size(); i++) {
            if (cells.get(i).out == net) {
                driven.add(driven(i, now));
            }
        }
        if (driven.size() > 1) {
            driven.remove(3);
        }
        int found = driven.isEmpty() ? 3 : driven.size() > 1 ? 2 : driven.iterator().next();
        now.put(net, stuck.getOrDefault(net, found));
        return now.get(net);
    }

    /** The tables are written out, so that they share no thought with the program. */
    private int driven(int i, Map<Integer, Integer> now) {
        List<Integer> in = new ArrayList<>();
        for (int net : cells.get(i).needs()) {
            in.add(Math.min(find(net, now), 2));
        }
        switch (cells.get(i).kind) {
            case 1: return "102".charAt(in.get(0)) - '0';
            case 2: return "000012022".charAt(3 * in.get(0) + in.get(1)) - '0';
            case 3: return "012111212".charAt(3 * in.get(0) + in.get(1)) - '0';
            case 4: return "012102222".charAt(3 * in.get(0) + in.get(1)) - '0';
            case 5: return in.get(2) < 2 ? in.get(in.get(2)) : in.get(0).equals(in.get(1)) ? in.get(0) : 2;
            case 6: return "302312322".charAt(3 * in.get(0) + in.get(1)) - '0';
            case 7: return in.get(1) == 1 || in.get(0).equals(held.get(i)) ? in.get(0) : in.get(1) == 0 ? held.get(i) : 2;
            default: return held.get(i);
        }
    }
}
