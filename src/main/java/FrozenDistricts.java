/**
 * Districts that two players draw by cutting in turn. What each call answers is
 * promised in the project's document, DOC.md; the names here are those of its terms.
 */
public final class FrozenDistricts {
    public static final int UNKNOWN = -1;
    public static final int BAD_VALUE = -2;
    public static final int FULL = -3;
    public static final int NOT_POSSIBLE = -4;
    public static final int NONE = -5;

    private static final int WIDTH = 6;
    private static final int CELLS = 36;
    private static final int SIDES = 4;
    private static final int PARTIES = 2;
    private static final int DRAW = 2;
    private static final int MOST_VOTES = 9;
    private static final int MOST_SEATS = 9;
    private static final int MOST_DISTRICTS = 9;
    private static final int FIRST_DISTRICTS = 4;
    private static final int MOST_CHARACTERS = 60;
    private static final int MOST_STATES = 4;

    // In a row: a cell without a part or a district. Also: the place of no cell.
    private static final int NOTHING = -1;

    private static final int TO_CUT = 0;
    private static final int TO_FREEZE = 1;
    private static final int ALL_DONE = 2;

    private static final int IS_CUT = 0;
    private static final int WITHOUT_PART = 1;
    private static final int OTHER_SIZE = 2;
    private static final int NOT_CONNECTED = 3;

    private static final int LEAST_REFUSAL = -10;
    private static final int LEAST_FAULT = -100;
    private static final int MARGIN_BASE = 1000;
    private static final int FAIRNESS_BASE = 100000;

    private final State now = new State();
    private final History history = new History();
    private final State snapshot = new State();
    private boolean hasSnapshot = false;
    private final VoteText text = new VoteText();
    private final Judge judge = new Judge();
    private final Row planned = new Row(CELLS, NOTHING);

    public FrozenDistricts() {
    }

    // ---- the map

    public int setVotes(int cell, int first, int second) {
        if (!isCell(cell)) {
            return UNKNOWN;
        }
        if (!isFromTo(first, 0, MOST_VOTES) || !isFromTo(second, 0, MOST_VOTES)) {
            return BAD_VALUE;
        }
        int firstBefore = now.first.at(cell);
        int secondBefore = now.second.at(cell);
        if (first == firstBefore && second == secondBefore) {
            return NONE;
        }
        history.record(now);
        now.first.put(cell, first);
        now.second.put(cell, second);
        return 10 * firstBefore + secondBefore;
    }

    public int begin(int districts) {
        if (!dividesTheMap(districts)) {
            return BAD_VALUE;
        }
        history.record(now);
        now.startAnew(districts);
        return now.size();
    }

    public int setTarget(int player, int seats) {
        if (!isParty(player)) {
            return UNKNOWN;
        }
        if (!isFromTo(seats, 0, MOST_SEATS)) {
            return BAD_VALUE;
        }
        int before = now.targets.at(player);
        if (seats == before) {
            return NONE;
        }
        history.record(now);
        now.targets.put(player, seats);
        return before;
    }

    // ---- cutting

    public int draft(int cell, int part) {
        if (!isCell(cell)) {
            return UNKNOWN;
        }
        if (now.stage != TO_CUT || !now.isOpen(cell)) {
            return NOT_POSSIBLE;
        }
        if (part != NOTHING && !now.isPart(part)) {
            return BAD_VALUE;
        }
        int before = now.parts.at(cell);
        if (part == before) {
            return NONE;
        }
        history.record(now);
        now.parts.put(cell, part);
        return before;
    }

    public int trade(int cell, int other) {
        if (!isCell(cell) || !isCell(other)) {
            return UNKNOWN;
        }
        int part = now.parts.at(cell);
        int otherPart = now.parts.at(other);
        // A frozen cell has no part, so that the one test stands for both.
        if (now.stage != TO_CUT || part == NOTHING || otherPart == NOTHING) {
            return NOT_POSSIBLE;
        }
        if (part == otherPart) {
            return NONE;
        }
        history.record(now);
        now.parts.put(cell, otherPart);
        now.parts.put(other, part);
        return oneIfCut();
    }

    public int snake(boolean byColumns) {
        if (now.stage != TO_CUT) {
            return NOT_POSSIBLE;
        }
        planSnake(byColumns);
        if (planned.isLike(now.parts)) {
            return NONE;
        }
        history.record(now);
        now.parts.copy(planned);
        return oneIfCut();
    }

    public int adopt() {
        // While a draft is to be made, each cut since the beginning has left a frozen district.
        if (now.stage != TO_CUT || now.frozen == 0) {
            return NOT_POSSIBLE;
        }
        if (now.rest.isLike(now.parts)) {
            return NONE;
        }
        history.record(now);
        now.parts.copy(now.rest);
        return now.left();
    }

    public int propose() {
        if (now.stage != TO_CUT) {
            return NOT_POSSIBLE;
        }
        int reason = judge.reason(now);
        if (reason != IS_CUT) {
            return LEAST_REFUSAL - reason;
        }
        history.record(now);
        now.stage = TO_FREEZE;
        return now.left();
    }

    public int freeze(int part) {
        if (now.stage != TO_FREEZE) {
            return NOT_POSSIBLE;
        }
        if (!now.isPart(part)) {
            return UNKNOWN;
        }
        history.record(now);
        now.takePart(part);
        return now.frozen;
    }

    // ---- texts

    public int type(char character) {
        if (!text.append(character)) {
            return FULL;
        }
        return text.length();
    }

    public int clearText() {
        int before = text.length();
        text.empty();
        return before;
    }

    public int readVotes(int cell) {
        if (!isCell(cell)) {
            return UNKNOWN;
        }
        int fault = text.fault();
        if (fault != NOTHING) {
            return LEAST_FAULT - fault;
        }
        int pairs = text.pairs();
        if (pairs > CELLS - cell) {
            return BAD_VALUE;
        }
        history.record(now);
        for (int pair = 0; pair < pairs; pair++) {
            now.first.put(cell + pair, text.votes(pair, 0));
            now.second.put(cell + pair, text.votes(pair, 1));
        }
        return pairs;
    }

    // ---- history

    public int undo() {
        if (history.size() == 0) {
            return NONE;
        }
        history.takeLatest(now);
        return history.size();
    }

    public int keep() {
        snapshot.copy(now);
        hasSnapshot = true;
        return now.frozen;
    }

    public int restore() {
        if (!hasSnapshot) {
            return NONE;
        }
        history.record(now);
        now.copy(snapshot);
        return now.frozen;
    }

    // ---- what is told

    public int cell(int cell, int what) {
        if (!isCell(cell)) {
            return UNKNOWN;
        }
        switch (what) {
            case 0:
                return now.first.at(cell);
            case 1:
                return now.second.at(cell);
            case 2:
                return noneIfNothing(now.parts.at(cell));
            case 3:
                return noneIfNothing(now.districts.at(cell));
            case 4:
                return now.isOpen(cell) ? Areas.alike(now.parts, cell) : Areas.alike(now.districts, cell);
            default:
                return BAD_VALUE;
        }
    }

    public int part(int part, int what) {
        if (!now.isPart(part)) {
            return UNKNOWN;
        }
        if (what == 1) {
            return judge.pieces(now.parts, part);
        }
        return tellArea(now.parts, part, what);
    }

    public int district(int district, int what) {
        if (!isFromTo(district, 0, now.frozen - 1)) {
            return UNKNOWN;
        }
        switch (what) {
            case 1:
                return now.frozenBy.at(district);
            case 6:
                return now.wasted(district, 0);
            case 7:
                return now.wasted(district, 1);
            default:
                return tellArea(now.districts, district, what);
        }
    }

    public int why(int what) {
        if (!isFromTo(what, 0, 1)) {
            return BAD_VALUE;
        }
        if (now.stage != TO_CUT) {
            return NOT_POSSIBLE;
        }
        return what == 0 ? judge.reason(now) : noneIfNothing(judge.blamed(now));
    }

    public int advice() {
        if (now.stage != TO_FREEZE) {
            return NOT_POSSIBLE;
        }
        int freezer = now.player();
        int closest = now.closestWon(freezer);
        return closest != NOTHING ? closest : now.mostLost(freezer);
    }

    public int party(int party, int what) {
        if (!isParty(party)) {
            return UNKNOWN;
        }
        switch (what) {
            case 0:
                return now.seats(party);
            case 1:
                return now.votesOf(party).sum();
            case 2:
                return now.wastedInAll(party);
            case 3:
                return MARGIN_BASE + now.seats(party) - now.targets.at(party);
            case 4:
                return now.won(now.parts, now.left(), party);
            default:
                return BAD_VALUE;
        }
    }

    public int fairness() {
        int votes = now.first.sum();
        int allVotes = votes + now.second.sum();
        return FAIRNESS_BASE + now.seats(0) * allVotes - now.frozen * votes;
    }

    public int count(int what) {
        switch (what) {
            case 0:
                return now.wanted;
            case 1:
                return now.size();
            case 2:
                return now.frozen;
            case 3:
                return now.left();
            case 4:
                return now.stage;
            case 5:
                return noneIfNothing(now.player());
            case 6:
                return Areas.size(now.districts, NOTHING);
            case 7:
                return now.openWithoutPart();
            case 8:
                return now.bordersOfAll();
            case 9:
                return now.won(now.districts, now.frozen, DRAW);
            case 10:
                return history.size();
            case 11:
                return text.length();
            default:
                return BAD_VALUE;
        }
    }

    // ---- what several calls share

    private static boolean isFromTo(int number, int least, int most) {
        return number >= least && number <= most;
    }

    private static boolean isCell(int cell) {
        return isFromTo(cell, 0, CELLS - 1);
    }

    private static boolean isParty(int party) {
        return isFromTo(party, 0, PARTIES - 1);
    }

    private static boolean dividesTheMap(int districts) {
        return districts == 2 || districts == 3 || districts == 4 || districts == 6 || districts == 9;
    }

    private static int noneIfNothing(int number) {
        return number == NOTHING ? NONE : number;
    }

    private int oneIfCut() {
        return judge.reason(now) == IS_CUT ? 1 : 0;
    }

    private void planSnake(boolean byColumns) {
        planned.fill(NOTHING);
        int part = 0;
        int cells = 0;
        for (int step = 0; step < CELLS; step++) {
            int cell = cellOfSnake(step, byColumns);
            if (now.isOpen(cell)) {
                planned.put(cell, part);
                cells++;
                if (cells == now.size()) {
                    part++;
                    cells = 0;
                }
            }
        }
    }

    private static int cellOfSnake(int step, boolean byColumns) {
        int line = step / WIDTH;
        int place = step % WIDTH;
        if (line % 2 == 1) {
            place = WIDTH - 1 - place;
        }
        return byColumns ? place * WIDTH + line : line * WIDTH + place;
    }

    /** Tells what parts and districts have in common, under the numbers that they share. */
    private int tellArea(Row areas, int area, int what) {
        switch (what) {
            case 0:
                return Areas.size(areas, area);
            case 2:
                return Areas.borders(areas, area);
            case 3:
                return MARGIN_BASE + now.margin(areas, area, 0);
            case 4:
                return now.winner(areas, area);
            case 5:
                return noneIfNothing(Areas.lowest(areas, area));
            default:
                return BAD_VALUE;
        }
    }

    /** A row of numbers of which each place is looked at before it is used. */
    private static final class Row {
        private final int[] numbers;

        Row(int length, int number) {
            numbers = new int[length > 0 ? length : 0];
            for (int place = 0; place < numbers.length; place++) {
                numbers[place] = number;
            }
        }

        int at(int place) {
            return place >= 0 && place < numbers.length ? numbers[place] : NOTHING;
        }

        void put(int place, int number) {
            if (place >= 0 && place < numbers.length) {
                numbers[place] = number;
            }
        }

        void fill(int number) {
            for (int place = 0; place < numbers.length; place++) {
                numbers[place] = number;
            }
        }

        void copy(Row other) {
            for (int place = 0; place < numbers.length; place++) {
                numbers[place] = other.at(place);
            }
        }

        boolean isLike(Row other) {
            for (int place = 0; place < numbers.length; place++) {
                if (numbers[place] != other.at(place)) {
                    return false;
                }
            }
            return true;
        }

        int sum() {
            int sum = 0;
            for (int place = 0; place < numbers.length; place++) {
                sum += numbers[place];
            }
            return sum;
        }
    }

    /** What can be told of the cells that bear the same number in a row of the map. */
    private static final class Areas {
        /** The cell that the side leads to, or NOTHING for the outside. */
        static int behind(int cell, int side) {
            int column = cell % WIDTH;
            switch (side) {
                case 0:
                    return cell >= WIDTH ? cell - WIDTH : NOTHING;
                case 1:
                    return column < WIDTH - 1 ? cell + 1 : NOTHING;
                case 2:
                    return cell < CELLS - WIDTH ? cell + WIDTH : NOTHING;
                case 3:
                    return column > 0 ? cell - 1 : NOTHING;
                default:
                    return NOTHING;
            }
        }

        static int size(Row areas, int area) {
            int size = 0;
            for (int cell = 0; cell < CELLS; cell++) {
                if (areas.at(cell) == area) {
                    size++;
                }
            }
            return size;
        }

        static int lowest(Row areas, int area) {
            for (int cell = 0; cell < CELLS; cell++) {
                if (areas.at(cell) == area) {
                    return cell;
                }
            }
            return NOTHING;
        }

        /** How many cells next to this one are in its area; none if it is in no area. */
        static int alike(Row areas, int cell) {
            int area = areas.at(cell);
            if (area == NOTHING) {
                return 0;
            }
            int alike = 0;
            for (int side = 0; side < SIDES; side++) {
                // Outside the map a row tells NOTHING, which is no area.
                if (areas.at(behind(cell, side)) == area) {
                    alike++;
                }
            }
            return alike;
        }

        static int borders(Row areas, int area) {
            int borders = 0;
            for (int cell = 0; cell < CELLS; cell++) {
                if (areas.at(cell) == area) {
                    borders += SIDES - alike(areas, cell);
                }
            }
            return borders;
        }

        static int votes(Row areas, int area, Row votes) {
            int sum = 0;
            for (int cell = 0; cell < CELLS; cell++) {
                if (areas.at(cell) == area) {
                    sum += votes.at(cell);
                }
            }
            return sum;
        }
    }

    /** Everything that undo() and restore() bring back. */
    private static final class State {
        final Row first = new Row(CELLS, 0);
        final Row second = new Row(CELLS, 0);
        final Row parts = new Row(CELLS, NOTHING);
        final Row districts = new Row(CELLS, NOTHING);
        /** The parts that the latest cut left open, as adopt() drafts them. */
        final Row rest = new Row(CELLS, NOTHING);
        final Row frozenBy = new Row(MOST_DISTRICTS, NOTHING);
        final Row targets = new Row(PARTIES, 0);
        int wanted = FIRST_DISTRICTS;
        int frozen = 0;
        int cutter = 0;
        int stage = TO_CUT;

        void copy(State other) {
            first.copy(other.first);
            second.copy(other.second);
            parts.copy(other.parts);
            districts.copy(other.districts);
            rest.copy(other.rest);
            frozenBy.copy(other.frozenBy);
            targets.copy(other.targets);
            wanted = other.wanted;
            frozen = other.frozen;
            cutter = other.cutter;
            stage = other.stage;
        }

        void startAnew(int number) {
            parts.fill(NOTHING);
            districts.fill(NOTHING);
            rest.fill(NOTHING);
            frozenBy.fill(NOTHING);
            wanted = number;
            frozen = 0;
            cutter = 0;
            stage = TO_CUT;
        }

        int size() {
            return wanted > 0 ? CELLS / wanted : 0;
        }

        /** How many districts are not frozen yet: the document's k. */
        int left() {
            return wanted - frozen;
        }

        boolean isOpen(int cell) {
            return districts.at(cell) == NOTHING;
        }

        boolean isPart(int number) {
            return number >= 0 && number < left();
        }

        /** The player who has something to do, or NOTHING. */
        int player() {
            switch (stage) {
                case TO_CUT:
                    return cutter;
                case TO_FREEZE:
                    return 1 - cutter;
                default:
                    return NOTHING;
            }
        }

        int openWithoutPart() {
            int open = 0;
            for (int cell = 0; cell < CELLS; cell++) {
                if (isOpen(cell) && parts.at(cell) == NOTHING) {
                    open++;
                }
            }
            return open;
        }

        /** Freezes a part of the proposed cut, and the last one with it if no other is left. */
        void takePart(int taken) {
            makeDistrict(parts, taken, 1 - cutter);
            leaveRest(taken);
            parts.fill(NOTHING);
            if (left() == 1) {
                makeDistrict(rest, 0, cutter);
                stage = ALL_DONE;
            } else {
                cutter = 1 - cutter;
                stage = TO_CUT;
            }
        }

        private void makeDistrict(Row areas, int area, int player) {
            for (int cell = 0; cell < CELLS; cell++) {
                if (areas.at(cell) == area) {
                    districts.put(cell, frozen);
                }
            }
            frozenBy.put(frozen, player);
            frozen++;
        }

        private void leaveRest(int taken) {
            for (int cell = 0; cell < CELLS; cell++) {
                int number = parts.at(cell);
                if (number == taken) {
                    number = NOTHING;
                } else if (number > taken) {
                    number--;
                }
                rest.put(cell, number);
            }
        }

        Row votesOf(int side) {
            return side == 0 ? first : second;
        }

        int margin(Row areas, int area, int side) {
            return Areas.votes(areas, area, votesOf(side)) - Areas.votes(areas, area, votesOf(1 - side));
        }

        /** The party that wins the area, or DRAW. */
        int winner(Row areas, int area) {
            int margin = margin(areas, area, 0);
            if (margin == 0) {
                return DRAW;
            }
            return margin > 0 ? 0 : 1;
        }

        /** How many of the areas 0 to number - 1 have this winner. */
        int won(Row areas, int number, int winner) {
            int won = 0;
            for (int area = 0; area < number; area++) {
                if (winner(areas, area) == winner) {
                    won++;
                }
            }
            return won;
        }

        int seats(int side) {
            return won(districts, frozen, side);
        }

        int wasted(int number, int side) {
            int votes = Areas.votes(districts, number, votesOf(side));
            int others = Areas.votes(districts, number, votesOf(1 - side));
            return votes > others ? votes - (others + 1) : votes;
        }

        int wastedInAll(int side) {
            int wasted = 0;
            for (int number = 0; number < frozen; number++) {
                wasted += wasted(number, side);
            }
            return wasted;
        }

        int bordersOfAll() {
            int borders = 0;
            for (int number = 0; number < frozen; number++) {
                borders += Areas.borders(districts, number);
            }
            return borders;
        }

        /** The lowest part of those that the party wins with the least margin, or NOTHING. */
        int closestWon(int side) {
            int closest = NOTHING;
            int least = 0;
            for (int number = 0; number < left(); number++) {
                int margin = margin(parts, number, side);
                if (margin > 0 && (closest == NOTHING || margin < least)) {
                    closest = number;
                    least = margin;
                }
            }
            return closest;
        }

        /** The lowest part of those in which the other party's margin is the greatest. */
        int mostLost(int side) {
            int most = 0;
            for (int number = 1; number < left(); number++) {
                if (margin(parts, number, 1 - side) > margin(parts, most, 1 - side)) {
                    most = number;
                }
            }
            return most;
        }
    }

    /** Finds whether a draft is a cut, and what is to blame if it is none. */
    private static final class Judge {
        // Made once, as each judgement needs them.
        private final Row reached = new Row(CELLS, 0);
        private final Row queue = new Row(CELLS, NOTHING);

        int reason(State state) {
            if (withoutPart(state) != NOTHING) {
                return WITHOUT_PART;
            }
            if (ofOtherSize(state) != NOTHING) {
                return OTHER_SIZE;
            }
            return notConnected(state) != NOTHING ? NOT_CONNECTED : IS_CUT;
        }

        /** The cell or part that is to blame, or NOTHING if the draft is a cut. */
        int blamed(State state) {
            switch (reason(state)) {
                case WITHOUT_PART:
                    return withoutPart(state);
                case OTHER_SIZE:
                    return ofOtherSize(state);
                case NOT_CONNECTED:
                    return notConnected(state);
                default:
                    return NOTHING;
            }
        }

        int pieces(Row areas, int area) {
            reached.fill(0);
            int pieces = 0;
            for (int cell = 0; cell < CELLS; cell++) {
                if (areas.at(cell) == area && reached.at(cell) == 0) {
                    pieces++;
                    reachFrom(cell, areas, area);
                }
            }
            return pieces;
        }

        private void reachFrom(int start, Row areas, int area) {
            reached.put(start, 1);
            queue.put(0, start);
            int waiting = 1;
            for (int next = 0; next < CELLS && next < waiting; next++) {
                int cell = queue.at(next);
                for (int side = 0; side < SIDES; side++) {
                    int other = Areas.behind(cell, side);
                    if (areas.at(other) == area && reached.at(other) == 0) {
                        reached.put(other, 1);
                        queue.put(waiting, other);
                        waiting++;
                    }
                }
            }
        }

        private static int withoutPart(State state) {
            for (int cell = 0; cell < CELLS; cell++) {
                if (state.isOpen(cell) && state.parts.at(cell) == NOTHING) {
                    return cell;
                }
            }
            return NOTHING;
        }

        private static int ofOtherSize(State state) {
            for (int number = 0; number < state.left(); number++) {
                if (Areas.size(state.parts, number) != state.size()) {
                    return number;
                }
            }
            return NOTHING;
        }

        private int notConnected(State state) {
            for (int number = 0; number < state.left(); number++) {
                if (pieces(state.parts, number) != 1) {
                    return number;
                }
            }
            return NOTHING;
        }
    }

    /** The latest states; the slots of those that are dropped are used again. */
    private static final class History {
        private final State[] slots = new State[MOST_STATES];
        private int oldest = 0;
        private int size = 0;

        History() {
            for (int slot = 0; slot < slots.length; slot++) {
                slots[slot] = new State();
            }
        }

        int size() {
            return size;
        }

        void record(State state) {
            State slot = slotAt(size);
            if (slot == null) {
                return;
            }
            slot.copy(state);
            if (size < MOST_STATES) {
                size++;
            } else {
                // The slot was that of the oldest state, which is dropped.
                oldest = (oldest + 1) % MOST_STATES;
            }
        }

        /** Removes the latest state and brings it back into the one that is given. */
        void takeLatest(State state) {
            State slot = slotAt(size - 1);
            if (size == 0 || slot == null) {
                return;
            }
            state.copy(slot);
            size--;
        }

        private State slotAt(int age) {
            int slot = Math.floorMod(oldest + age, MOST_STATES);
            return slot >= 0 && slot < slots.length ? slots[slot] : null;
        }
    }

    /** The text of votes: pairs of digits with a comma between two. */
    private static final class VoteText {
        private static final int STEP = 3;

        private final char[] characters = new char[MOST_CHARACTERS];
        private int length = 0;

        int length() {
            return length;
        }

        boolean append(char character) {
            if (length < 0 || length >= characters.length) {
                return false;
            }
            characters[length] = character;
            length++;
            return true;
        }

        void empty() {
            length = 0;
        }

        /** The index of the first character that is not allowed, or the length if more must follow, or NOTHING. */
        int fault() {
            for (int index = 0; index < length; index++) {
                if (!isAllowed(index)) {
                    return index;
                }
            }
            return length % STEP == 2 ? NOTHING : length;
        }

        int pairs() {
            return (length + 1) / STEP;
        }

        /** The digit of a pair that stands for a party. */
        int votes(int pair, int side) {
            return at(pair * STEP + side) - '0';
        }

        private boolean isAllowed(int index) {
            char character = at(index);
            // The 60 characters end before a 37th pair, so that its "," needs no test.
            if (index % STEP == 2) {
                return character == ',';
            }
            return character >= '0' && character <= '9';
        }

        private char at(int index) {
            return index >= 0 && index < characters.length ? characters[index] : ' ';
        }
    }
}
