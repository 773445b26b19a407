import java.util.Arrays;

/**
 * Plays small scenes cycle by cycle: a picture of lines and fills with a layer of control values,
 * programs of bytes over variables and flags, and objects that walk over the picture and are
 * stopped by barriers, by its edges and by one another.
 */
public final class SceneCycle {
    private static final int COLUMNS = 16;
    private static final int ROWS = 12;
    private static final int CELLS = 192;
    private static final int BLANK_COLOUR = 15;
    private static final int BLANK_CONTROL = 4;
    private static final int MOST_BYTES = 64;
    private static final int GREATEST_BYTE = 255;
    private static final int LEAST_LIMIT = 16;
    private static final int MOST_LIMIT = 200;
    private static final int NONE = -1;
    private static final int REFUSED = -1;
    private static final int ENDED = 0;
    private static final int OVERRUN = -2;
    private static final int DEEP = -3;

    private final int limit;
    private final World world;
    private final Runner runner;
    private final PictureReader pictureReader;
    private final LogicReader logicReader;
    private int cycleCount;
    private boolean over;

    public SceneCycle(int limit) {
        this.limit = Math.max(LEAST_LIMIT, Math.min(MOST_LIMIT, limit));
        world = new World();
        runner = new Runner();
        pictureReader = new PictureReader();
        logicReader = new LogicReader();
    }

    public int put(int resource, int word, int count) {
        Resource target = world.resourceAt(resource);
        if (target == null || target.loaded || count < 1 || count > 4) {
            return REFUSED;
        }
        if (target.size + count > MOST_BYTES) {
            return REFUSED;
        }
        target.append(word, count);
        return target.size;
    }

    public int load(int resource) {
        Resource target = world.resourceAt(resource);
        if (target == null || target.loaded) {
            return REFUSED;
        }
        int answer = resource == World.PICTURE
                ? pictureReader.check(target)
                : logicReader.check(target);
        target.loaded = answer >= 0;
        return answer;
    }

    public int cycle(int word, int key, int luck) {
        if (over || !upTo(GREATEST_BYTE, word) || !upTo(8, key) || !upTo(GREATEST_BYTE, luck)) {
            return REFUSED;
        }
        cycleCount++;
        world.word = word;
        world.actors[0].steer(key);
        int ending = runner.run(world, limit);
        if (ending != ENDED) {
            over = true;
            return ending;
        }
        Motion.moveAll(world, luck);
        return runner.stepCount;
    }

    public int cycles() {
        return cycleCount;
    }

    public int steps() {
        return runner.stepCount;
    }

    public int variable(int v) {
        return world.valueOf(v);
    }

    public boolean give(int v, int n) {
        return upTo(GREATEST_BYTE, n) && world.setValue(v, n);
    }

    public boolean flag(int f) {
        return world.isSet(f);
    }

    public boolean mark(int f, boolean on) {
        return world.setFlag(f, on);
    }

    public int object(int o, int what) {
        Actor actor = world.actorAt(o);
        if (actor == null) {
            return NONE;
        }
        switch (what) {
            case 0: return actor.x;
            case 1: return actor.y;
            case 2: return actor.direction;
            case 3: return actor.mode;
            case 4: return actor.priority();
            case 5: return actor.shown ? 1 : 0;
            case 6: return actor.width;
            case 7: return actor.height;
            default: return NONE;
        }
    }

    public int cell(int x, int y, int layer) {
        if (layer == 0) {
            return world.screen.colourAt(x, y);
        }
        return layer == 1 ? world.screen.controlAt(x, y) : NONE;
    }

    public int seen(int x, int y) {
        if (!onScreen(x, y)) {
            return NONE;
        }
        int front = world.frontActor(x, y, world.screen.depthAt(x, y));
        return front == NONE ? world.screen.colourAt(x, y) : 16 + front;
    }

    private static boolean upTo(int greatest, int number) {
        return number >= 0 && number <= greatest;
    }

    private static boolean onScreen(int x, int y) {
        return x >= 0 && x < COLUMNS && y >= 0 && y < ROWS;
    }

    /** A row of bytes: the picture, or a logic. */
    private static final class Resource {
        private final int[] bytes = new int[MOST_BYTES];
        int size;
        boolean loaded;

        void append(int word, int count) {
            for (int left = count - 1; left >= 0 && size < MOST_BYTES; left--) {
                bytes[size] = (word >>> (8 * left)) & GREATEST_BYTE;
                size++;
            }
        }

        int byteAt(int place) {
            return place >= 0 && place < size ? bytes[place] : 0;
        }
    }

    /** All that a logic can read or change, and what the motion works on. */
    private static final class World {
        static final int PICTURE = 0;
        static final int RESOURCES = 4;
        static final int ACTORS = 4;
        static final int VARIABLES = 16;
        static final int FLAGS = 16;

        final Screen screen = new Screen();
        final Actor[] actors = new Actor[ACTORS];
        private final Resource[] resources = new Resource[RESOURCES];
        private final int[] values = new int[VARIABLES];
        private final boolean[] flags = new boolean[FLAGS];
        int word;

        World() {
            for (int o = 0; o < ACTORS; o++) {
                actors[o] = new Actor();
            }
            for (int r = 0; r < RESOURCES; r++) {
                resources[r] = new Resource();
            }
        }

        Resource resourceAt(int r) {
            return r >= 0 && r < RESOURCES ? resources[r] : null;
        }

        Actor actorAt(int o) {
            return o >= 0 && o < ACTORS ? actors[o] : null;
        }

        int valueOf(int v) {
            return v >= 0 && v < VARIABLES ? values[v] : NONE;
        }

        boolean setValue(int v, int n) {
            if (v < 0 || v >= VARIABLES) {
                return false;
            }
            values[v] = n;
            return true;
        }

        boolean isSet(int f) {
            return f >= 0 && f < FLAGS && flags[f];
        }

        boolean setFlag(int f, boolean on) {
            if (f < 0 || f >= FLAGS) {
                return false;
            }
            flags[f] = on;
            return true;
        }

        int frontActor(int x, int y, int depth) {
            int front = NONE;
            for (int o = 0; o < ACTORS; o++) {
                Actor actor = actors[o];
                boolean candidate = actor.covers(x, y) && actor.priority() >= depth;
                if (candidate && (front == NONE || !actor.isBehind(actors[front]))) {
                    front = o;
                }
            }
            return front;
        }
    }

    /** An object of the scene. */
    private static final class Actor {
        static final int FREE = 0;
        static final int GOING = 1;
        static final int FOLLOWING = 2;
        static final int WANDERING = 3;
        static final int ABOVE_BARRIERS = 15;

        int x;
        int y;
        int width = 1;
        int height = 1;
        int direction;
        int mode;
        int rank;
        boolean shown;
        boolean ignoring;
        boolean moved;
        int goalX;
        int goalY;
        int arrivalFlag;

        int priority() {
            return rank != 0 ? rank : 4 + 11 * y / 16;
        }

        void steer(int key) {
            if (key != 0 && mode == FREE) {
                direction = direction == key ? 0 : key;
            }
        }

        void showAt(int column, int row) {
            shown = true;
            x = Math.min(column, COLUMNS - width);
            y = row;
        }

        void resize(int newWidth, int newHeight) {
            width = newWidth;
            height = newHeight;
            x = Math.min(x, COLUMNS - width);
        }

        void free(int newDirection) {
            mode = FREE;
            direction = newDirection;
        }

        void goTo(int column, int row, int flagNumber) {
            mode = GOING;
            goalX = column;
            goalY = row;
            arrivalFlag = flagNumber;
        }

        void follow(int flagNumber) {
            mode = FOLLOWING;
            arrivalFlag = flagNumber;
        }

        boolean baseWithin(int left, int top, int right, int bottom) {
            return x >= left && x + width - 1 <= right && y >= top && y <= bottom;
        }

        /** Whether a base of that width at (column, row) would share a cell with this one. */
        boolean baseMeets(int column, int row, int otherWidth) {
            return row == y && column < x + width && x < column + otherWidth;
        }

        boolean covers(int column, int row) {
            return shown && column >= x && column < x + width && row <= y && row > y - height;
        }

        boolean isBehind(Actor other) {
            if (priority() != other.priority()) {
                return priority() < other.priority();
            }
            return y < other.y;
        }
    }

    /** The cells, and the pen that draws on them. */
    private static final class Screen {
        private final int[] colours = new int[CELLS];
        private final int[] controls = new int[CELLS];
        private final int[] reached = new int[CELLS];
        private int reachedCount;
        private final PictureReader reader = new PictureReader();
        private int penColour = NONE;
        private int penControl = NONE;

        Screen() {
            Arrays.fill(colours, BLANK_COLOUR);
            Arrays.fill(controls, BLANK_CONTROL);
        }

        int colourAt(int x, int y) {
            return onScreen(x, y) ? colours[y * COLUMNS + x] : NONE;
        }

        int controlAt(int x, int y) {
            return onScreen(x, y) ? controls[y * COLUMNS + x] : NONE;
        }

        int depthAt(int x, int y) {
            for (int row = y; row < ROWS; row++) {
                if (controlAt(x, row) >= 4) {
                    return controlAt(x, row);
                }
            }
            return 4;
        }

        int countInBase(int control, int x, int y, int width) {
            int count = 0;
            for (int column = x; column < x + width; column++) {
                if (controlAt(column, y) == control) {
                    count++;
                }
            }
            return count;
        }

        void show(Resource picture) {
            Arrays.fill(colours, BLANK_COLOUR);
            Arrays.fill(controls, BLANK_CONTROL);
            penColour = NONE;
            penControl = NONE;
            reader.restart();
            int size = picture != null && picture.loaded ? picture.size : 0;
            for (int at = 0; at < size; at++) {
                reader.take(picture.byteAt(at));
                if (!reader.atPoint) {
                    setPen();
                } else if (reader.command == PictureReader.FILLS) {
                    fill(reader.x, reader.y);
                } else {
                    line(reader.fromX, reader.fromY, reader.x, reader.y);
                }
            }
        }

        private void setPen() {
            switch (reader.command) {
                case PictureReader.COLOUR: penColour = reader.penNumber; break;
                case PictureReader.NO_COLOUR: penColour = NONE; break;
                case PictureReader.CONTROL: penControl = reader.penNumber; break;
                case PictureReader.NO_CONTROL: penControl = NONE; break;
                default: break;
            }
        }

        private void line(int a, int b, int c, int d) {
            int n = Math.max(Math.abs(c - a), Math.abs(d - b));
            draw(b * COLUMNS + a);
            for (int k = 1; k <= n; k++) {
                int column = a + Math.floorDiv(2 * k * (c - a) + n, 2 * n);
                int row = b + Math.floorDiv(2 * k * (d - b) + n, 2 * n);
                draw(row * COLUMNS + column);
            }
        }

        private void fill(int x, int y) {
            if (penColour != NONE) {
                // A blank colour would leave every cell open, and the fill without an end.
                if (penColour != BLANK_COLOUR) {
                    spread(colours, BLANK_COLOUR, x, y);
                }
            } else if (penControl != NONE && penControl != BLANK_CONTROL) {
                spread(controls, BLANK_CONTROL, x, y);
            }
        }

        private void spread(int[] layer, int blank, int x, int y) {
            reachedCount = 0;
            reach(layer, blank, x, y);
            for (int next = 0; next < CELLS && next < reachedCount; next++) {
                int column = reached[next] % COLUMNS;
                int row = reached[next] / COLUMNS;
                reach(layer, blank, column - 1, row);
                reach(layer, blank, column + 1, row);
                reach(layer, blank, column, row - 1);
                reach(layer, blank, column, row + 1);
            }
        }

        private void reach(int[] layer, int blank, int x, int y) {
            if (!onScreen(x, y) || reachedCount >= CELLS) {
                return;
            }
            int place = y * COLUMNS + x;
            if (layer[place] == blank) {
                reached[reachedCount] = place;
                reachedCount++;
                // Drawn at once: it is not blank any more, so it is not reached twice.
                draw(place);
            }
        }

        private void draw(int place) {
            if (place < 0 || place >= CELLS) {
                return;
            }
            if (penColour != NONE) {
                colours[place] = penColour;
            }
            if (penControl != NONE) {
                controls[place] = penControl;
            }
        }
    }

    /** Takes a picture's bytes one by one, for the check when it is loaded and when it is shown. */
    private static final class PictureReader {
        static final int COLOUR = 240;
        static final int NO_COLOUR = 241;
        static final int CONTROL = 242;
        static final int NO_CONTROL = 243;
        static final int LINES = 244;
        static final int STEPPED_LINES = 245;
        static final int FILLS = 246;
        static final int END = 255;

        int command;
        int penNumber;
        boolean atPoint;
        int fromX;
        int fromY;
        int x;
        int y;
        private int column;
        private int taken;
        private int commandCount;

        void restart() {
            command = NONE;
            commandCount = 0;
        }

        /** The number of commands, or the refusal that tells the fault's place. */
        int check(Resource picture) {
            restart();
            for (int at = 0; at < picture.size; at++) {
                if (!take(picture.byteAt(at))) {
                    return -2 - at;
                }
            }
            return command == END ? commandCount : -2 - picture.size;
        }

        /** Whether the byte is as it must be; atPoint tells if it completed a point. */
        boolean take(int b) {
            atPoint = false;
            if (command == END) {
                return false;
            }
            if (b >= COLOUR && isComplete()) {
                return begin(b);
            }
            switch (command) {
                case COLOUR:
                case CONTROL: return takePenNumber(b);
                case LINES:
                case FILLS: return takeCoordinate(b);
                case STEPPED_LINES: return taken < 2 ? takeCoordinate(b) : takeStep(b);
                default: return false;
            }
        }

        private boolean isComplete() {
            switch (command) {
                case COLOUR:
                case CONTROL: return taken == 1;
                case LINES:
                case FILLS: return taken >= 2 && taken % 2 == 0;
                case STEPPED_LINES: return taken >= 2;
                default: return true;
            }
        }

        private boolean begin(int b) {
            if (b > FILLS && b != END) {
                return false;
            }
            command = b;
            penNumber = NONE;
            taken = 0;
            if (b != END) {
                commandCount++;
            }
            return true;
        }

        private boolean takePenNumber(int b) {
            if (taken != 0 || b > 15) {
                return false;
            }
            penNumber = b;
            taken = 1;
            return true;
        }

        private boolean takeCoordinate(int b) {
            if (taken % 2 == 0) {
                column = b;
                taken++;
                return b < COLUMNS;
            }
            return moveTo(column, b);
        }

        private boolean takeStep(int s) {
            return moveTo(x + moveOf(s / 16), y + moveOf(s % 16));
        }

        private static int moveOf(int half) {
            return half > 8 ? 8 - half : half;
        }

        private boolean moveTo(int newX, int newY) {
            if (!onScreen(newX, newY)) {
                return false;
            }
            // The first point has none before it: its line is the point alone.
            boolean first = taken < 2;
            fromX = first ? newX : x;
            fromY = first ? newY : y;
            x = newX;
            y = newY;
            taken++;
            atPoint = true;
            return true;
        }
    }

    /** Checks a logic's bytes before it is loaded. */
    private static final class LogicReader {
        static final int LAST_INSTRUCTION = 18;
        static final int LAST_TEST = 7;

        private final boolean[] begins = new boolean[MOST_BYTES + 1];
        private int at;
        private int fault;

        /** The number of instructions, or the refusal that tells the fault's place. */
        int check(Resource logic) {
            at = 0;
            fault = NONE;
            for (int place = 0; place <= MOST_BYTES; place++) {
                begins[place] = false;
            }
            int count = 0;
            for (; count < MOST_BYTES && at < logic.size && fault == NONE; count++) {
                begins[at] = true;
                readInstruction(logic);
            }
            if (fault == NONE) {
                // A jump may lead to the end too.
                begins[logic.size] = true;
                findWrongJump(logic);
            }
            return fault == NONE ? count : -2 - fault;
        }

        private void readInstruction(Resource logic) {
            int code = logic.byteAt(at);
            if (code > LAST_INSTRUCTION) {
                fault = at;
                return;
            }
            at++;
            readOperands(logic, operandsOf(code), 0);
        }

        private void readOperands(Resource logic, String kinds, int nested) {
            for (int i = 0; i < kinds.length() && fault == NONE; i++) {
                if (at >= logic.size) {
                    fault = logic.size;
                } else if (kinds.charAt(i) == 't') {
                    readTest(logic, nested);
                } else if (fits(kinds.charAt(i), logic.byteAt(at))) {
                    at++;
                } else {
                    fault = at;
                }
            }
        }

        private void readTest(Resource logic, int nested) {
            int code = logic.byteAt(at);
            boolean nests = code >= Runner.NOT;
            if (code > LAST_TEST || nests && nested >= Runner.MOST_NESTED) {
                fault = at;
                return;
            }
            at++;
            readOperands(logic, testOperandsOf(code), nests ? nested + 1 : nested);
        }

        private void findWrongJump(Resource logic) {
            int end = logic.size;
            for (int place = logic.size - 1; place >= 0; place--) {
                if (isAtBeginning(place)) {
                    if (!leadsWell(logic, place, end)) {
                        fault = place;
                    }
                    end = place;
                }
            }
        }

        private boolean leadsWell(Resource logic, int place, int end) {
            int code = logic.byteAt(place);
            int distance = logic.byteAt(end - 1);
            if (code == Runner.GOTO) {
                return isAtBeginning(end + Runner.jumpOf(distance));
            }
            return code != Runner.IF || isAtBeginning(end + distance);
        }

        private boolean isAtBeginning(int place) {
            return place >= 0 && place <= MOST_BYTES && begins[place];
        }

        // The letters are those of the document where it has one: v, f, o, x, y, n, k, d, r, b, t;
        // and e is an object other than 0, s a width or height, w a word (0 would be none).
        private static String operandsOf(int instruction) {
            switch (instruction) {
                case Runner.ASSIGN:
                case Runner.ADD: return "vn";
                case Runner.COPY: return "vv";
                case Runner.SET:
                case Runner.RESET: return "f";
                case Runner.CALL: return "k";
                case Runner.GOTO: return "n";
                case Runner.IF: return "tn";
                case Runner.SHOW: return "oxy";
                case Runner.HIDE:
                case Runner.WANDER: return "o";
                case Runner.RESIZE: return "oss";
                case Runner.FREE: return "od";
                case Runner.GO: return "oxyf";
                case Runner.FOLLOW: return "ef";
                case Runner.RANK: return "or";
                case Runner.IGNORE: return "ob";
                default: return "";
            }
        }

        private static String testOperandsOf(int test) {
            switch (test) {
                case Runner.EQUAL:
                case Runner.BELOW: return "vn";
                case Runner.FLAG: return "f";
                case Runner.WORD: return "w";
                case Runner.WITHIN: return "oxyxy";
                case Runner.NOT: return "t";
                default: return "tt";
            }
        }

        private static boolean fits(char kind, int number) {
            if (kind == 'r' && number == 0) {
                return true;
            }
            return number >= leastOf(kind) && number <= greatestOf(kind);
        }

        private static int leastOf(char kind) {
            switch (kind) {
                case 'e':
                case 'k':
                case 's':
                case 'w': return 1;
                case 'r': return 4;
                default: return 0;
            }
        }

        private static int greatestOf(char kind) {
            switch (kind) {
                case 'b': return 1;
                case 'e':
                case 'k':
                case 'o': return 3;
                case 's': return 4;
                case 'd': return 8;
                case 'y': return ROWS - 1;
                case 'f':
                case 'r':
                case 'v':
                case 'x': return 15;
                default: return GREATEST_BYTE;
            }
        }
    }

    /** Runs the logics of one cycle. */
    private static final class Runner {
        static final int RETURN = 0;
        static final int ASSIGN = 1;
        static final int ADD = 2;
        static final int COPY = 3;
        static final int SET = 4;
        static final int RESET = 5;
        static final int CALL = 6;
        static final int GOTO = 7;
        static final int IF = 8;
        static final int SHOW = 9;
        static final int HIDE = 10;
        static final int RESIZE = 11;
        static final int FREE = 12;
        static final int GO = 13;
        static final int FOLLOW = 14;
        static final int WANDER = 15;
        static final int RANK = 16;
        static final int IGNORE = 17;
        static final int SHOW_PICTURE = 18;

        static final int EQUAL = 0;
        static final int BELOW = 1;
        static final int FLAG = 2;
        static final int WORD = 3;
        static final int WITHIN = 4;
        static final int NOT = 5;
        static final int BOTH = 6;
        static final int MOST_NESTED = 6;

        private static final int FIRST_LOGIC = 1;
        private static final int MOST_UNDER_WAY = 4;
        // Each step begins at most one logic that is left again: well above twice the limit.
        private static final int MOST_TURNS = 1000;

        private final Resource[] callers = new Resource[MOST_UNDER_WAY];
        private final int[] behindCalls = new int[MOST_UNDER_WAY];
        private int waiting;
        private Resource logic;
        private int at;
        private boolean done;
        int stepCount;

        static int jumpOf(int distance) {
            return distance > 127 ? distance - 256 : distance;
        }

        /** How it came out: ENDED, OVERRUN or DEEP. */
        int run(World world, int limit) {
            stepCount = 0;
            waiting = 0;
            logic = world.resourceAt(FIRST_LOGIC);
            at = 0;
            done = logic == null || !logic.loaded;
            int ending = ENDED;
            for (int turn = 0; turn < MOST_TURNS && !done && ending == ENDED; turn++) {
                if (isAtEnd()) {
                    leave();
                } else if (stepCount >= limit) {
                    ending = OVERRUN;
                } else {
                    stepCount++;
                    ending = step(world);
                }
            }
            return ending;
        }

        private boolean isAtEnd() {
            return logic == null || at >= logic.size;
        }

        private int next() {
            int b = logic == null ? 0 : logic.byteAt(at);
            at++;
            return b;
        }

        private void leave() {
            if (waiting <= 0) {
                done = true;
                return;
            }
            waiting--;
            logic = callers[waiting];
            at = behindCalls[waiting];
        }

        private int enter(Resource called) {
            if (called == null || !called.loaded) {
                return ENDED;
            }
            if (waiting + 1 >= MOST_UNDER_WAY) {
                return DEEP;
            }
            callers[waiting] = logic;
            behindCalls[waiting] = at;
            waiting++;
            logic = called;
            at = 0;
            return ENDED;
        }

        private int step(World world) {
            int code = next();
            switch (code) {
                case RETURN: leave(); break;
                case ASSIGN:
                case ADD:
                case COPY: changeValue(world, code); break;
                case SET:
                case RESET: world.setFlag(next(), code == SET); break;
                case CALL: return enter(world.resourceAt(next()));
                case GOTO: jumpIf(true, code); break;
                case IF: jumpIf(!holds(world, 0), code); break;
                case SHOW_PICTURE: world.screen.show(world.resourceAt(World.PICTURE)); break;
                default: changeActor(world, code); break;
            }
            return ENDED;
        }

        private void jumpIf(boolean jumps, int code) {
            int distance = next();
            if (jumps) {
                at += code == GOTO ? jumpOf(distance) : distance;
            }
        }

        private void changeValue(World world, int code) {
            int v = next();
            int operand = next();
            if (code == ASSIGN) {
                world.setValue(v, operand);
            } else if (code == ADD) {
                world.setValue(v, (world.valueOf(v) + operand) % 256);
            } else {
                world.setValue(v, world.valueOf(operand));
            }
        }

        private void changeActor(World world, int code) {
            Actor actor = world.actorAt(next());
            if (actor == null) {
                return;
            }
            switch (code) {
                case HIDE: actor.shown = false; break;
                case FREE: actor.free(next()); break;
                case FOLLOW: actor.follow(next()); break;
                case WANDER: actor.mode = Actor.WANDERING; break;
                case RANK: actor.rank = next(); break;
                case IGNORE: actor.ignoring = next() == 1; break;
                default: changeByTwoNumbers(actor, code); break;
            }
        }

        private void changeByTwoNumbers(Actor actor, int code) {
            int first = next();
            int second = next();
            if (code == SHOW) {
                actor.showAt(first, second);
            } else if (code == RESIZE) {
                actor.resize(first, second);
            } else if (code == GO) {
                actor.goTo(first, second, next());
            }
        }

        private boolean holds(World world, int nested) {
            int kind = next();
            if (kind >= NOT) {
                return nested < MOST_NESTED && holdsOfOthers(world, kind, nested + 1);
            }
            int first = next();
            switch (kind) {
                case EQUAL: return world.valueOf(first) == next();
                case BELOW: return world.valueOf(first) < next();
                case FLAG: return world.isSet(first);
                case WORD: return first == world.word;
                default: return isWithin(world.actorAt(first));
            }
        }

        private boolean holdsOfOthers(World world, int kind, int nested) {
            boolean first = holds(world, nested);
            if (kind == NOT) {
                return !first;
            }
            // Read even if the first one decides, so that the place goes on behind both.
            boolean second = holds(world, nested);
            return kind == BOTH ? first && second : first || second;
        }

        private boolean isWithin(Actor actor) {
            int left = next();
            int top = next();
            int right = next();
            int bottom = next();
            return actor != null && actor.shown && actor.baseWithin(left, top, right, bottom);
        }
    }

    /** The motion at a cycle's end. */
    private static final class Motion {
        private static final int NO_EDGE = 0;
        private static final int TOP_EDGE = 1;
        private static final int RIGHT_EDGE = 2;
        private static final int LOWEST_EDGE = 3;
        private static final int LEFT_EDGE = 4;
        private static final int HORIZON = 3;
        private static final int EDGE_VARIABLE = 0;
        private static final int WATER_FLAG = 0;
        private static final int SIGNAL_FLAG = 1;

        static void moveAll(World world, int luck) {
            world.setValue(EDGE_VARIABLE, 0);
            for (int o = 0; o < World.ACTORS; o++) {
                Actor actor = world.actors[o];
                if (actor.shown) {
                    aim(world, actor, 1 + (luck + o) % 8);
                    step(world, o);
                    if (o == 0) {
                        markGround(world, actor);
                    }
                }
            }
        }

        private static void aim(World world, Actor actor, int chance) {
            if (actor.mode == Actor.GOING) {
                boolean there = actor.x == actor.goalX && actor.y == actor.goalY;
                approach(world, actor, there, actor.goalX, actor.goalY);
            } else if (actor.mode == Actor.FOLLOWING) {
                aimAtFirst(world, actor);
            } else if (actor.mode == Actor.WANDERING && !actor.moved) {
                actor.direction = chance;
            }
        }

        private static void aimAtFirst(World world, Actor actor) {
            Actor first = world.actors[0];
            if (!first.shown) {
                actor.direction = 0;
                return;
            }
            boolean near = Math.abs(first.x - actor.x) <= 2 && Math.abs(first.y - actor.y) <= 1;
            approach(world, actor, near, first.x, first.y);
        }

        private static void approach(World world, Actor actor, boolean there, int x, int y) {
            if (there) {
                world.setFlag(actor.arrivalFlag, true);
                actor.free(0);
            } else {
                actor.direction = directionOf(x - actor.x, y - actor.y);
            }
        }

        private static int directionOf(int right, int down) {
            if (right == 0) {
                return down < 0 ? 1 : down > 0 ? 5 : 0;
            }
            if (right > 0) {
                return down < 0 ? 2 : down > 0 ? 4 : 3;
            }
            return down < 0 ? 8 : down > 0 ? 6 : 7;
        }

        private static int columnsOf(int direction) {
            if (direction >= 2 && direction <= 4) {
                return 1;
            }
            return direction >= 6 ? -1 : 0;
        }

        private static int rowsOf(int direction) {
            if (direction >= 4 && direction <= 6) {
                return 1;
            }
            return direction == 8 || direction == 1 || direction == 2 ? -1 : 0;
        }

        private static void step(World world, int o) {
            Actor actor = world.actors[o];
            actor.moved = false;
            if (actor.direction == 0) {
                return;
            }
            int x = actor.x + columnsOf(actor.direction);
            int y = actor.y + rowsOf(actor.direction);
            int edge = edgeAt(x, y, actor.width);
            if (edge == NO_EDGE && !isBarred(world.screen, actor, x, y) && !meetsOther(world, o, x, y)) {
                actor.x = x;
                actor.y = y;
                actor.moved = true;
                return;
            }
            if (actor.mode != Actor.WANDERING) {
                actor.direction = 0;
            }
            if (o == 0 && edge != NO_EDGE) {
                world.setValue(EDGE_VARIABLE, edge);
            }
        }

        private static int edgeAt(int x, int y, int width) {
            if (x < 0) {
                return LEFT_EDGE;
            }
            if (x + width > COLUMNS) {
                return RIGHT_EDGE;
            }
            if (y >= ROWS) {
                return LOWEST_EDGE;
            }
            return y < HORIZON ? TOP_EDGE : NO_EDGE;
        }

        private static boolean isBarred(Screen screen, Actor actor, int x, int y) {
            if (actor.priority() == Actor.ABOVE_BARRIERS) {
                return false;
            }
            if (screen.countInBase(0, x, y, actor.width) > 0) {
                return true;
            }
            return !actor.ignoring && screen.countInBase(1, x, y, actor.width) > 0;
        }

        private static boolean meetsOther(World world, int o, int x, int y) {
            int width = world.actors[o].width;
            for (int p = 0; p < World.ACTORS; p++) {
                Actor other = world.actors[p];
                if (p != o && other.shown && other.baseMeets(x, y, width)) {
                    return true;
                }
            }
            return false;
        }

        private static void markGround(World world, Actor actor) {
            int water = world.screen.countInBase(3, actor.x, actor.y, actor.width);
            int signals = world.screen.countInBase(2, actor.x, actor.y, actor.width);
            world.setFlag(WATER_FLAG, water == actor.width);
            world.setFlag(SIGNAL_FLAG, signals > 0);
        }
    }
}
