import java.util.ArrayDeque;
import java.util.ArrayList;
import java.util.Deque;
import java.util.HashSet;
import java.util.List;
import java.util.Map;
import java.util.Set;
import java.util.TreeMap;
import java.util.TreeSet;

/**
 * The document once more, written in another way than the class (with sets of cells, and a
 * new state for each act), so that the two are hardly wrong in the same way.
 */
final class Model {
    private static final int[] DISTRICTS = {2, 3, 4, 6, 9};

    private static final class Position {
        int[][] votes = new int[36][2];
        int[] targets = new int[2];
        int n = 4;
        List<Set<Integer>> districts = new ArrayList<>();
        List<Integer> froze = new ArrayList<>();
        Map<Integer, Integer> draft = new TreeMap<>();
        Map<Integer, Integer> left = null;
        boolean proposed = false;

        Position copy() {
            Position copy = new Position();
            for (int cell = 0; cell < 36; cell++) {
                copy.votes[cell] = votes[cell].clone();
            }
            copy.targets = targets.clone();
            copy.n = n;
            for (Set<Integer> district : districts) {
                copy.districts.add(new TreeSet<>(district));
            }
            copy.froze = new ArrayList<>(froze);
            copy.draft = new TreeMap<>(draft);
            copy.left = left == null ? null : new TreeMap<>(left);
            copy.proposed = proposed;
            return copy;
        }

        int k() {
            return n - districts.size();
        }

        boolean done() {
            return k() == 0;
        }

        boolean cutting() {
            return !done() && !proposed;
        }

        /** Each district that was frozen has changed who cuts. */
        int cutter() {
            return districts.size() % 2;
        }

        int districtOf(int cell) {
            for (int number = 0; number < districts.size(); number++) {
                if (districts.get(number).contains(cell)) {
                    return number;
                }
            }
            return -5;
        }

        Set<Integer> partCells(int part) {
            Set<Integer> cells = new TreeSet<>();
            for (Map.Entry<Integer, Integer> entry : draft.entrySet()) {
                if (entry.getValue() == part) {
                    cells.add(entry.getKey());
                }
            }
            return cells;
        }

        int margin(Set<Integer> cells) {
            int margin = 0;
            for (int cell : cells) {
                margin += votes[cell][0] - votes[cell][1];
            }
            return margin;
        }

        int winner(Set<Integer> cells) {
            int sign = Integer.signum(margin(cells));
            return sign == 0 ? 2 : (1 - sign) / 2;
        }

        int[] why() {
            for (int cell = 0; cell < 36; cell++) {
                if (districtOf(cell) == -5 && !draft.containsKey(cell)) {
                    return new int[] {1, cell};
                }
            }
            for (int part = 0; part < k(); part++) {
                if (partCells(part).size() * n != 36) {
                    return new int[] {2, part};
                }
            }
            for (int part = 0; part < k(); part++) {
                if (pieces(partCells(part)) > 1) {
                    return new int[] {3, part};
                }
            }
            return new int[] {0, -5};
        }

        int isCut() {
            return why()[0] == 0 ? 1 : 0;
        }
    }

    private Position now = new Position();
    private Position kept = null;
    private final Deque<Position> history = new ArrayDeque<>();
    private String text = "";

    private void record() {
        history.addLast(now.copy());
        if (history.size() > 4) {
            history.removeFirst();
        }
    }

    private static boolean next(int one, int other) {
        return Math.abs(one / 6 - other / 6) + Math.abs(one % 6 - other % 6) == 1;
    }

    private static int pieces(Set<Integer> cells) {
        Set<Integer> rest = new HashSet<>(cells);
        int pieces = 0;
        while (!rest.isEmpty()) {
            pieces++;
            Set<Integer> piece = new HashSet<>();
            piece.add(rest.iterator().next());
            boolean grown = true;
            while (grown) {
                grown = false;
                for (int cell : cells) {
                    if (!piece.contains(cell) && piece.stream().anyMatch(other -> next(cell, other))) {
                        piece.add(cell);
                        grown = true;
                    }
                }
            }
            rest.removeAll(piece);
        }
        return pieces;
    }

    private static int borders(Set<Integer> cells) {
        int borders = 4 * cells.size();
        for (int one : cells) {
            for (int other : cells) {
                if (next(one, other)) {
                    borders--;
                }
            }
        }
        return borders;
    }

    private static boolean in(int number, int end) {
        return number >= 0 && number < end;
    }

    int setVotes(int cell, int first, int second) {
        if (!in(cell, 36)) {
            return -1;
        }
        if (!in(first, 10) || !in(second, 10)) {
            return -2;
        }
        int before = 10 * now.votes[cell][0] + now.votes[cell][1];
        if (before == 10 * first + second) {
            return -5;
        }
        record();
        now.votes[cell] = new int[] {first, second};
        return before;
    }

    int begin(int districts) {
        for (int allowed : DISTRICTS) {
            if (allowed == districts) {
                record();
                Position fresh = new Position();
                fresh.votes = now.votes;
                fresh.targets = now.targets;
                fresh.n = districts;
                now = fresh;
                return 36 / districts;
            }
        }
        return -2;
    }

    int setTarget(int player, int seats) {
        if (!in(player, 2)) {
            return -1;
        }
        if (!in(seats, 10)) {
            return -2;
        }
        int before = now.targets[player];
        if (before == seats) {
            return -5;
        }
        record();
        now.targets[player] = seats;
        return before;
    }

    int draft(int cell, int part) {
        if (!in(cell, 36)) {
            return -1;
        }
        if (now.districtOf(cell) != -5 || !now.cutting()) {
            return -4;
        }
        if (part != -1 && !in(part, now.k())) {
            return -2;
        }
        int before = now.draft.getOrDefault(cell, -1);
        if (before == part) {
            return -5;
        }
        record();
        if (part == -1) {
            now.draft.remove(cell);
        } else {
            now.draft.put(cell, part);
        }
        return before;
    }

    int trade(int cell, int other) {
        if (!in(cell, 36) || !in(other, 36)) {
            return -1;
        }
        if (!now.cutting() || !now.draft.containsKey(cell) || !now.draft.containsKey(other)) {
            return -4;
        }
        int part = now.draft.get(cell);
        int otherPart = now.draft.get(other);
        if (part == otherPart) {
            return -5;
        }
        record();
        now.draft.put(cell, otherPart);
        now.draft.put(other, part);
        return now.isCut();
    }

    int snake(boolean byColumns) {
        if (!now.cutting()) {
            return -4;
        }
        Map<Integer, Integer> drafted = new TreeMap<>();
        for (int line = 0; line < 6; line++) {
            for (int step = 0; step < 6; step++) {
                int place = line % 2 == 0 ? step : 5 - step;
                int cell = byColumns ? 6 * place + line : 6 * line + place;
                if (now.districtOf(cell) == -5) {
                    drafted.put(cell, drafted.size() * now.n / 36);
                }
            }
        }
        if (drafted.equals(now.draft)) {
            return -5;
        }
        record();
        now.draft = drafted;
        return now.isCut();
    }

    int adopt() {
        if (!now.cutting() || now.left == null) {
            return -4;
        }
        if (now.left.equals(now.draft)) {
            return -5;
        }
        record();
        now.draft = new TreeMap<>(now.left);
        return new HashSet<>(now.draft.values()).size();
    }

    int propose() {
        if (!now.cutting()) {
            return -4;
        }
        if (now.isCut() == 0) {
            return -10 - now.why()[0];
        }
        record();
        now.proposed = true;
        return now.k();
    }

    int freeze(int part) {
        if (!now.proposed) {
            return -4;
        }
        if (!in(part, now.k())) {
            return -1;
        }
        record();
        int cutter = now.cutter();
        now.districts.add(now.partCells(part));
        now.froze.add(1 - cutter);
        now.left = new TreeMap<>();
        for (Map.Entry<Integer, Integer> entry : now.draft.entrySet()) {
            int number = entry.getValue();
            if (number != part) {
                now.left.put(entry.getKey(), number < part ? number : number - 1);
            }
        }
        now.draft.clear();
        now.proposed = false;
        if (now.k() == 1) {
            now.districts.add(new TreeSet<>(now.left.keySet()));
            now.froze.add(cutter);
        }
        return now.districts.size();
    }

    int type(char character) {
        if (text.length() == 60) {
            return -3;
        }
        text = text + character;
        return text.length();
    }

    int clearText() {
        int length = text.length();
        text = "";
        return length;
    }

    int readVotes(int cell) {
        if (!in(cell, 36)) {
            return -1;
        }
        int good = 0;
        while (good < text.length() && text.substring(good, good + 1).matches(good % 3 == 2 ? "," : "[0-9]")) {
            good++;
        }
        if (good < text.length() || good % 3 != 2) {
            return -100 - good;
        }
        String[] pairs = text.split(",");
        if (cell + pairs.length > 36) {
            return -2;
        }
        record();
        for (int each = 0; each < pairs.length; each++) {
            int pair = Integer.parseInt(pairs[each]);
            now.votes[cell + each] = new int[] {pair / 10, pair % 10};
        }
        return pairs.length;
    }

    int undo() {
        if (history.isEmpty()) {
            return -5;
        }
        now = history.removeLast();
        return history.size();
    }

    int keep() {
        kept = now.copy();
        return now.districts.size();
    }

    int restore() {
        if (kept == null) {
            return -5;
        }
        record();
        now = kept.copy();
        return now.districts.size();
    }

    int cell(int cell, int what) {
        if (!in(cell, 36)) {
            return -1;
        }
        if (!in(what, 5)) {
            return -2;
        }
        int district = now.districtOf(cell);
        if (what < 2) {
            return now.votes[cell][what];
        }
        if (what < 4) {
            return what == 2 ? now.draft.getOrDefault(cell, -5) : district;
        }
        Set<Integer> alike = district != -5 ? now.districts.get(district) : Set.of();
        if (now.draft.containsKey(cell)) {
            alike = now.partCells(now.draft.get(cell));
        }
        return (int) alike.stream().filter(other -> next(cell, other)).count();
    }

    int part(int part, int what) {
        if (!in(part, now.k())) {
            return -1;
        }
        Set<Integer> cells = now.partCells(part);
        return what == 1 ? pieces(cells) : area(cells, what);
    }

    int district(int district, int what) {
        if (!in(district, now.districts.size())) {
            return -1;
        }
        if (what == 1) {
            return now.froze.get(district);
        }
        if (what == 6 || what == 7) {
            return wasted(now.districts.get(district), what - 6);
        }
        return area(now.districts.get(district), what);
    }

    private int area(Set<Integer> cells, int what) {
        switch (what) {
            case 0:
                return cells.size();
            case 2:
                return borders(cells);
            case 3:
                return 1000 + now.margin(cells);
            case 4:
                return now.winner(cells);
            case 5:
                return cells.stream().min(Integer::compare).orElse(-5);
            default:
                return -2;
        }
    }

    private int wasted(Set<Integer> cells, int party) {
        int[] sums = new int[2];
        for (int cell : cells) {
            sums[0] += now.votes[cell][0];
            sums[1] += now.votes[cell][1];
        }
        boolean won = now.winner(cells) == party;
        return won ? sums[party] - sums[1 - party] - 1 : sums[party];
    }

    int why(int what) {
        if (!in(what, 2)) {
            return -2;
        }
        return now.cutting() ? now.why()[what] : -4;
    }

    int advice() {
        if (!now.proposed) {
            return -4;
        }
        int freezer = 1 - now.cutter();
        int sign = freezer == 0 ? 1 : -1;
        // The parts in the order of their margins for the party, the least won one first.
        int best = -1;
        for (int margin = 1; margin <= 324 && best < 0; margin++) {
            best = partWithMargin(sign * margin);
        }
        for (int margin = 324; margin >= 0 && best < 0; margin--) {
            best = partWithMargin(-sign * margin);
        }
        return best;
    }

    private int partWithMargin(int margin) {
        for (int part = 0; part < now.k(); part++) {
            if (now.margin(now.partCells(part)) == margin) {
                return part;
            }
        }
        return -1;
    }

    int party(int party, int what) {
        if (!in(party, 2)) {
            return -1;
        }
        int seats = (int) now.districts.stream().filter(cells -> now.winner(cells) == party).count();
        switch (what) {
            case 0:
                return seats;
            case 1:
                return votesOf(party);
            case 2:
                return now.districts.stream().mapToInt(cells -> wasted(cells, party)).sum();
            case 3:
                return 1000 + seats - now.targets[party];
            case 4:
                int won = 0;
                for (int part = 0; part < now.k(); part++) {
                    won += now.winner(now.partCells(part)) == party ? 1 : 0;
                }
                return won;
            default:
                return -2;
        }
    }

    private int votesOf(int party) {
        int votes = 0;
        for (int[] each : now.votes) {
            votes += each[party];
        }
        return votes;
    }

    int fairness() {
        return 100000 + party(0, 0) * (votesOf(0) + votesOf(1)) - now.districts.size() * votesOf(0);
    }

    int count(int what) {
        int open = 36 - now.districts.size() * 36 / now.n;
        switch (what) {
            case 0:
                return now.n;
            case 1:
                return 36 / now.n;
            case 2:
                return now.districts.size();
            case 3:
                return now.k();
            case 4:
                return now.done() ? 2 : now.proposed ? 1 : 0;
            case 5:
                return now.done() ? -5 : now.proposed ? 1 - now.cutter() : now.cutter();
            case 6:
                return open;
            case 7:
                return open - now.draft.size();
            case 8:
                return now.districts.stream().mapToInt(Model::borders).sum();
            case 9:
                return (int) now.districts.stream().filter(cells -> now.winner(cells) == 2).count();
            case 10:
                return history.size();
            case 11:
                return text.length();
            default:
                return -2;
        }
    }
}
