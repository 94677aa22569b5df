import java.util.Arrays;
import java.util.NoSuchElementException;

/**
 * A machine of processes that talk by channels. The text of a program is typed, read into code,
 * and run by a scheduler with one queue; README.md tells how the parts fit together.
 */
public final class ChannelMachine {
    public static final int ENDED = 0;
    public static final int MORE = 1;
    public static final int HOST = 2;

    private static final int MOST_ACTS = 200;

    private final Reader reader;
    private final Engine engine;
    private int place;

    public ChannelMachine() {
        reader = new Reader();
        engine = new Engine();
        place = -1;
    }

    public int type(long eight) throws IllegalArgumentException, IllegalStateException {
        if (!Text.isPrintable(eight)) {
            throw new IllegalArgumentException("a character is not one of 33 .. 126");
        }
        if (!reader.text.hasRoomFor(eight)) {
            throw new IllegalStateException("the text has no room");
        }
        reader.text.append(eight);
        return reader.text.length();
    }

    public int load() throws IllegalArgumentException {
        boolean isProgram = reader.readProgram();
        int end = reader.text.position();
        reader.text.clear();
        if (!isProgram) {
            place = end;
            throw new IllegalArgumentException("the text is no program");
        }
        reader.code = engine.begin(reader.code);
        return reader.processes();
    }

    public int run(int n) throws IllegalArgumentException, IllegalStateException, ArithmeticException {
        if (n < 1 || n > MOST_ACTS) {
            throw new IllegalArgumentException("the number of acts is not one of 1 .. 200");
        }
        if (!engine.isToBeRun()) {
            throw new IllegalStateException("there is no program to be run");
        }
        int outcome = engine.perform(n);
        if (outcome == Engine.DIVISION) {
            throw new ArithmeticException("division by 0");
        }
        if (outcome == Engine.CLASH) {
            throw new IllegalStateException("clash");
        }
        if (outcome == Engine.DEADLOCK) {
            throw new IllegalStateException("deadlock");
        }
        return outcome;
    }

    public int give(int value) throws IllegalStateException {
        if (!engine.isToBeRun()) {
            throw new IllegalStateException("there is no program to be run");
        }
        if (engine.gifts.isFull()) {
            throw new IllegalStateException("there is no room for a gift");
        }
        engine.acceptGift(value);
        return engine.gifts.size();
    }

    public int take() throws NoSuchElementException {
        if (engine.box.isEmpty()) {
            throw new NoSuchElementException("the box is empty");
        }
        return engine.handOut();
    }

    public int variable(int v) throws IllegalArgumentException {
        if (!Calculator.isVariable(v)) {
            throw new IllegalArgumentException("the variable is not one of 0 .. 5");
        }
        return engine.calculator.read(v);
    }

    public void set(int v, int value) throws IllegalArgumentException {
        if (!Calculator.isVariable(v)) {
            throw new IllegalArgumentException("the variable is not one of 0 .. 5");
        }
        engine.calculator.assign(v, value);
    }

    public int channel(int c) throws IllegalArgumentException {
        if (!Meetings.isChannel(c)) {
            throw new IllegalArgumentException("the channel is not one of 0 .. 5");
        }
        return engine.meetings.waitingAt(c);
    }

    public int count(int what) {
        switch (what) {
            case 0: return place;
            case 1: return (int) engine.sleepers.now;
            case 2: return engine.ready.size();
            case 3: return engine.tasks.living();
            case 4: return engine.acts;
            case 5: return engine.gifts.size();
            case 6: return engine.box.size();
            case 7: return engine.state;
            case 8: return engine.sleepers.size();
            default: return -1;
        }
    }

    /** The typed text, with the position up to which it has been read. */
    private static final class Text {
        static final int MOST = 72;
        /** What stands behind the last character; no character that can be typed is this. */
        static final int END = 0;

        private static final int BYTES = 8;

        private final char[] letters;
        private int length;
        private int position;

        Text() {
            letters = new char[MOST];
            length = 0;
            position = 0;
        }

        private static int byteOf(long eight, int index) {
            return (int) (eight >>> (8 * (BYTES - 1 - index))) & 255;
        }

        static boolean isPrintable(long eight) {
            for (int k = 0; k < BYTES; k++) {
                int letter = byteOf(eight, k);
                if (letter != 0 && (letter < 33 || letter > 126)) {
                    return false;
                }
            }
            return true;
        }

        boolean hasRoomFor(long eight) {
            int letterCount = 0;
            for (int k = 0; k < BYTES; k++) {
                if (byteOf(eight, k) != 0) {
                    letterCount++;
                }
            }
            return length + letterCount <= MOST;
        }

        void append(long eight) {
            for (int k = 0; k < BYTES; k++) {
                int letter = byteOf(eight, k);
                if (letter != 0 && length < MOST) {
                    letters[length] = (char) letter;
                    length++;
                }
            }
        }

        int length() {
            return length;
        }

        int position() {
            return position;
        }

        void clear() {
            length = 0;
            position = 0;
        }

        void rewind() {
            position = 0;
        }

        int peek() {
            return position >= 0 && position < length && position < MOST ? letters[position] : END;
        }

        void advance() {
            if (position < length) {
                position++;
            }
        }

        boolean accept(int letter) {
            if (peek() != letter) {
                return false;
            }
            advance();
            return true;
        }
    }

    /**
     * A program as a row of instructions. A SEQUENCE leaves no instruction of its own, so a process
     * without any ACT leaves none at all. An expression stands in postfix form before the instruction
     * that uses its value.
     */
    private static final class Code {
        // No letter leaves more than three instructions (a child of PARALLEL that is one letter long
        // leaves three), and END stands behind them all.
        static final int MOST = 3 * Text.MOST + 1;

        static final int NUMBER = 0;
        static final int VARIABLE = 1;
        static final int NEGATE = 2;
        static final int ADD = 3;
        static final int SUBTRACT = 4;
        static final int MULTIPLY = 5;
        static final int DIVIDE = 6;
        static final int REMAINDER = 7;
        static final int LESS = 8;
        static final int EQUAL = 9;
        /** These and all before are parts of expressions. */
        static final int LAST_OF_EXPRESSIONS = EQUAL;

        static final int STORE = 10;
        static final int SEND = 11;
        static final int RECEIVE = 12;
        static final int NOTHING = 13;
        static final int STOP = 14;
        static final int SKIP_IF_ZERO = 15;
        static final int FORK = 16;
        static final int PAUSE = 17;
        static final int CHOOSE = 18;

        /** Marks a child of FORK; leads to the next one, or behind them all. */
        static final int CHILD = 19;
        /** Marks a guard of CHOOSE; leads to the next one, or behind them all. */
        static final int GUARD = 20;
        static final int JUMP = 21;
        static final int YIELD = 22;
        static final int END = 23;

        private final int[] operations;
        private final int[] operands;
        private final int[] variables;
        private int size;

        Code() {
            operations = new int[MOST];
            operands = new int[MOST];
            variables = new int[MOST];
            size = 0;
        }

        void clear() {
            size = 0;
        }

        int size() {
            return size;
        }

        int operation(int at) {
            return at >= 0 && at < MOST ? operations[at] : END;
        }

        int operand(int at) {
            return at >= 0 && at < MOST ? operands[at] : 0;
        }

        int variableOf(int at) {
            return at >= 0 && at < MOST ? variables[at] : 0;
        }

        /** Answers where the new instruction stands. */
        int add(int operation, int operand, int variable) {
            int at = size;
            if (at >= 0 && at < MOST) {
                operations[at] = operation;
                operands[at] = operand;
                variables[at] = variable;
                size++;
            }
            return at;
        }

        int add(int operation) {
            return add(operation, 0, 0);
        }

        /** Lets the instruction lead to the end of what has been written so far. */
        void leadHere(int at) {
            if (at >= 0 && at < MOST) {
                operands[at] = size;
            }
        }
    }

    /**
     * Reads the text into code, one letter ahead and each expression as far as it goes. A method that
     * answers false has left the text's position at the first letter that can't stand there: so it
     * looks at the limits of depth before it goes past a letter that would need more.
     */
    private static final class Reader {
        private static final int DEEPEST_PROCESS = 7;
        private static final int DEEPEST_UNARY = 5;
        private static final int MOST_PARTS = 4;
        private static final int MOST_DIGITS = 3;
        private static final int NONE = -1;

        final Text text;
        Code code;
        private int processes;

        Reader() {
            text = new Text();
            code = new Code();
            processes = 0;
        }

        int processes() {
            return processes;
        }

        boolean readProgram() {
            text.rewind();
            code.clear();
            processes = 0;
            if (!process(1)) {
                return false;
            }
            code.add(Code.END);
            return text.peek() == Text.END;
        }

        private boolean process(int depth) {
            if (depth > DEEPEST_PROCESS) {
                return false;
            }
            processes++;
            switch (text.peek()) {
                case '.': return single(Code.NOTHING);
                case '#': return single(Code.STOP);
                case '@': return delay();
                case '(': return sequence(depth);
                case '{': return parallel(depth);
                case '[': return alternative(depth);
                case '^': return depth < DEEPEST_PROCESS && loop(depth);
                case '?': return depth < DEEPEST_PROCESS && condition(depth);
                default: return variableNumber(text.peek()) != NONE ? assignment() : talk();
            }
        }

        private boolean single(int operation) {
            text.advance();
            code.add(operation);
            return true;
        }

        private boolean delay() {
            text.advance();
            if (!expression(1)) {
                return false;
            }
            code.add(Code.PAUSE);
            return true;
        }

        private boolean sequence(int depth) {
            text.advance();
            for (int k = 0; k < Text.MOST && text.peek() != ')'; k++) {
                if (!process(depth + 1)) {
                    return false;
                }
            }
            return text.accept(')');
        }

        private boolean parallel(int depth) {
            text.advance();
            int fork = code.add(Code.FORK);
            for (int k = 0; k < MOST_PARTS && text.peek() != '}'; k++) {
                int child = code.add(Code.CHILD);
                if (!process(depth + 1)) {
                    return false;
                }
                code.add(Code.END);
                code.leadHere(child);
            }
            code.leadHere(fork);
            return text.accept('}');
        }

        private boolean loop(int depth) {
            text.advance();
            int start = code.size();
            if (!expression(1)) {
                return false;
            }
            int exit = code.add(Code.SKIP_IF_ZERO);
            if (!text.accept(',') || !process(depth + 1)) {
                return false;
            }
            code.add(Code.YIELD, start, 0);
            code.leadHere(exit);
            return true;
        }

        private boolean condition(int depth) {
            text.advance();
            if (!expression(1)) {
                return false;
            }
            int toSecond = code.add(Code.SKIP_IF_ZERO);
            if (!text.accept(',') || !process(depth + 1)) {
                return false;
            }
            int overSecond = code.add(Code.JUMP);
            code.leadHere(toSecond);
            if (!text.accept(',') || !process(depth + 1)) {
                return false;
            }
            code.leadHere(overSecond);
            return true;
        }

        private boolean alternative(int depth) {
            text.advance();
            int choose = code.add(Code.CHOOSE);
            for (int k = 0; k < MOST_PARTS && text.peek() != ']'; k++) {
                if (depth >= DEEPEST_PROCESS || !guard(depth)) {
                    return false;
                }
            }
            code.leadHere(choose);
            return text.accept(']');
        }

        private boolean guard(int depth) {
            int mark = code.add(Code.GUARD);
            if (!expression(1) || !text.accept('&')) {
                return false;
            }
            boolean isRead = text.peek() == '.' ? single(Code.NOTHING) : guardInput();
            if (!isRead || !text.accept(',') || !process(depth + 1)) {
                return false;
            }
            code.leadHere(mark);
            return true;
        }

        private boolean guardInput() {
            int number = channelNumber(text.peek());
            if (number == NONE || number == Meetings.TO_HOST) {
                return false;
            }
            text.advance();
            return text.peek() == '?' && input(number);
        }

        private boolean assignment() {
            int number = variableNumber(text.peek());
            text.advance();
            if (!text.accept(':') || !expression(1)) {
                return false;
            }
            code.add(Code.STORE, number, 0);
            return true;
        }

        private boolean talk() {
            int number = channelNumber(text.peek());
            if (number == NONE) {
                return false;
            }
            text.advance();
            if (text.peek() == '!') {
                return number != Meetings.FROM_HOST && output(number);
            }
            return text.peek() == '?' && number != Meetings.TO_HOST && input(number);
        }

        private boolean output(int number) {
            text.advance();
            if (!expression(1)) {
                return false;
            }
            code.add(Code.SEND, number, 0);
            return true;
        }

        private boolean input(int number) {
            text.advance();
            int variable = variableNumber(text.peek());
            if (variable == NONE) {
                return false;
            }
            text.advance();
            code.add(Code.RECEIVE, number, variable);
            return true;
        }

        private boolean expression(int depth) {
            if (!sum(depth)) {
                return false;
            }
            int operation = comparison(text.peek());
            if (operation == NONE) {
                return true;
            }
            text.advance();
            if (!sum(depth)) {
                return false;
            }
            code.add(operation);
            return true;
        }

        private boolean sum(int depth) {
            if (!product(depth)) {
                return false;
            }
            for (int k = 0; k < Text.MOST && addition(text.peek()) != NONE; k++) {
                int operation = addition(text.peek());
                text.advance();
                if (!product(depth)) {
                    return false;
                }
                code.add(operation);
            }
            return true;
        }

        private boolean product(int depth) {
            if (!unary(depth)) {
                return false;
            }
            for (int k = 0; k < Text.MOST && multiplication(text.peek()) != NONE; k++) {
                int operation = multiplication(text.peek());
                text.advance();
                if (!unary(depth)) {
                    return false;
                }
                code.add(operation);
            }
            return true;
        }

        private boolean unary(int depth) {
            int letter = text.peek();
            if (isDigit(letter)) {
                return number();
            }
            int variable = variableNumber(letter);
            if (variable != NONE) {
                text.advance();
                code.add(Code.VARIABLE, variable, 0);
                return true;
            }
            if (depth >= DEEPEST_UNARY) {
                return false;
            }
            if (text.accept('(')) {
                return expression(depth + 1) && text.accept(')');
            }
            if (!text.accept('-') || !unary(depth + 1)) {
                return false;
            }
            code.add(Code.NEGATE);
            return true;
        }

        private boolean number() {
            int value = 0;
            for (int k = 0; k < MOST_DIGITS && isDigit(text.peek()); k++) {
                value = 10 * value + text.peek() - '0';
                text.advance();
            }
            code.add(Code.NUMBER, value, 0);
            return true;
        }

        private static boolean isDigit(int letter) {
            return letter >= '0' && letter <= '9';
        }

        private static int variableNumber(int letter) {
            return letter >= 'a' && letter <= 'f' ? letter - 'a' : NONE;
        }

        private static int channelNumber(int letter) {
            if (letter >= 'A' && letter <= 'D') {
                return letter - 'A';
            }
            if (letter == 'I') {
                return Meetings.FROM_HOST;
            }
            return letter == 'O' ? Meetings.TO_HOST : NONE;
        }

        private static int comparison(int letter) {
            if (letter == '<') {
                return Code.LESS;
            }
            return letter == '=' ? Code.EQUAL : NONE;
        }

        private static int addition(int letter) {
            if (letter == '+') {
                return Code.ADD;
            }
            return letter == '-' ? Code.SUBTRACT : NONE;
        }

        private static int multiplication(int letter) {
            if (letter == '*') {
                return Code.MULTIPLY;
            }
            if (letter == '/') {
                return Code.DIVIDE;
            }
            return letter == '%' ? Code.REMAINDER : NONE;
        }
    }

    /** The variables, and the values of expressions over them. */
    private static final class Calculator {
        private static final int VARIABLES = 6;
        // Five unaries deep, each level may hold back a comparison, a sum and a product.
        private static final int MOST_VALUES = 16;

        private final int[] variables;
        private final int[] stack;
        private int height;
        private boolean divisionByZero;

        Calculator() {
            variables = new int[VARIABLES];
            stack = new int[MOST_VALUES];
            height = 0;
            divisionByZero = false;
        }

        static boolean isVariable(int v) {
            return v >= 0 && v < VARIABLES;
        }

        int read(int v) {
            return v >= 0 && v < VARIABLES ? variables[v] : 0;
        }

        void assign(int v, int value) {
            if (v >= 0 && v < VARIABLES) {
                variables[v] = value;
            }
        }

        void clear() {
            Arrays.fill(variables, 0);
        }

        /** Works out the expression that begins there, if one does; answers where it is over. */
        int evaluate(Code code, int from) {
            height = 0;
            divisionByZero = false;
            int at = from;
            for (int k = 0; k < Code.MOST && code.operation(at) <= Code.LAST_OF_EXPRESSIONS; k++) {
                step(code.operation(at), code.operand(at));
                at++;
            }
            return at;
        }

        boolean dividedByZero() {
            return divisionByZero;
        }

        int result() {
            return height > 0 ? stack[0] : 0;
        }

        private void step(int operation, int operand) {
            if (operation == Code.NUMBER) {
                push(operand);
            } else if (operation == Code.VARIABLE) {
                push(read(operand));
            } else if (operation == Code.NEGATE) {
                push(-pop());
            } else {
                int right = pop();
                int left = pop();
                push(combine(operation, left, right));
            }
        }

        private int combine(int operation, int left, int right) {
            switch (operation) {
                case Code.ADD: return left + right;
                case Code.SUBTRACT: return left - right;
                case Code.MULTIPLY: return left * right;
                case Code.LESS: return left < right ? 1 : 0;
                case Code.EQUAL: return left == right ? 1 : 0;
                default: break;
            }
            if (right == 0) {
                divisionByZero = true;
                return 0;
            }
            return operation == Code.DIVIDE ? left / right : left % right;
        }

        private void push(int value) {
            if (height >= 0 && height < MOST_VALUES) {
                stack[height] = value;
                height++;
            }
        }

        private int pop() {
            if (height <= 0 || height > MOST_VALUES) {
                return 0;
            }
            height--;
            return stack[height];
        }
    }

    /** Numbers that stand in line: what comes in behind goes out in front. */
    private static final class Line {
        private final int[] places;
        private int front;
        private int size;

        Line(int most) {
            places = new int[most];
            front = 0;
            size = 0;
        }

        int size() {
            return size;
        }

        boolean isEmpty() {
            return size == 0;
        }

        boolean isFull() {
            return size >= places.length;
        }

        void clear() {
            front = 0;
            size = 0;
        }

        void add(int number) {
            int at = front + size;
            if (at >= places.length) {
                at -= places.length;
            }
            if (size < places.length && at >= 0 && at < places.length) {
                places[at] = number;
                size++;
            }
        }

        int first() {
            return size > 0 && front >= 0 && front < places.length ? places[front] : 0;
        }

        int removeFirst() {
            int number = first();
            if (size > 0) {
                front = front + 1 < places.length ? front + 1 : 0;
                size--;
            }
            return number;
        }
    }

    /** The tasks there are: where each goes on, whose child it is, how many children it waits for. */
    private static final class Tasks {
        // Each task runs a process of its own, and each process begins with a letter of its own.
        static final int MOST = Text.MOST;
        static final int NONE = -1;

        private final int[] positions;
        private final int[] parents;
        private final int[] children;
        private final boolean[] alive;
        private int living;

        Tasks() {
            positions = new int[MOST];
            parents = new int[MOST];
            children = new int[MOST];
            alive = new boolean[MOST];
            living = 0;
        }

        int living() {
            return living;
        }

        void clear() {
            for (int task = 0; task < MOST; task++) {
                alive[task] = false;
            }
            living = 0;
        }

        int make(int position, int parent) {
            for (int task = 0; task < MOST; task++) {
                if (!alive[task]) {
                    alive[task] = true;
                    positions[task] = position;
                    parents[task] = parent;
                    children[task] = 0;
                    living++;
                    return task;
                }
            }
            return NONE;
        }

        int position(int task) {
            return task >= 0 && task < MOST ? positions[task] : 0;
        }

        void goTo(int task, int position) {
            if (task >= 0 && task < MOST) {
                positions[task] = position;
            }
        }

        void addChild(int task) {
            if (task >= 0 && task < MOST) {
                children[task]++;
            }
        }

        boolean hasChildren(int task) {
            return task >= 0 && task < MOST && children[task] > 0;
        }

        /** Answers the task's parent, which has one child less then. */
        int remove(int task) {
            if (task < 0 || task >= MOST) {
                return NONE;
            }
            alive[task] = false;
            living--;
            int parent = parents[task];
            if (parent >= 0 && parent < MOST) {
                children[parent]--;
            }
            return parent;
        }
    }

    /** Who waits at which channel, and for what. */
    private static final class Meetings {
        static final int FROM_HOST = 4;
        static final int TO_HOST = 5;

        private static final int CHANNELS = 6;
        private static final int FOR_INPUT = 1;
        private static final int WITH_OUTPUT = 2;

        private final int[] receivers;
        private final int[] targets;
        private final int[] continuations;
        private final int[] senders;
        private final int[] values;

        Meetings() {
            receivers = new int[CHANNELS];
            targets = new int[CHANNELS];
            continuations = new int[CHANNELS];
            senders = new int[CHANNELS];
            values = new int[CHANNELS];
            Arrays.fill(receivers, Tasks.NONE);
            Arrays.fill(senders, Tasks.NONE);
        }

        static boolean isChannel(int c) {
            return c >= 0 && c < CHANNELS;
        }

        void clear() {
            Arrays.fill(receivers, Tasks.NONE);
            Arrays.fill(senders, Tasks.NONE);
        }

        int waitingAt(int c) {
            if (receiver(c) != Tasks.NONE) {
                return FOR_INPUT;
            }
            return sender(c) != Tasks.NONE ? WITH_OUTPUT : 0;
        }

        boolean waitForHost() {
            return receiver(FROM_HOST) != Tasks.NONE || sender(TO_HOST) != Tasks.NONE;
        }

        int receiver(int c) {
            return c >= 0 && c < CHANNELS ? receivers[c] : Tasks.NONE;
        }

        int target(int c) {
            return c >= 0 && c < CHANNELS ? targets[c] : 0;
        }

        int continuation(int c) {
            return c >= 0 && c < CHANNELS ? continuations[c] : 0;
        }

        void addReceiver(int c, int task, int target, int continuation) {
            if (c >= 0 && c < CHANNELS) {
                receivers[c] = task;
                targets[c] = target;
                continuations[c] = continuation;
            }
        }

        /** An alternative waits at several channels, and leaves them all at once. */
        void removeReceiver(int task) {
            for (int c = 0; c < CHANNELS; c++) {
                if (receivers[c] == task) {
                    receivers[c] = Tasks.NONE;
                }
            }
        }

        int sender(int c) {
            return c >= 0 && c < CHANNELS ? senders[c] : Tasks.NONE;
        }

        int valueOf(int c) {
            return c >= 0 && c < CHANNELS ? values[c] : 0;
        }

        void addSender(int c, int task, int value) {
            if (c >= 0 && c < CHANNELS) {
                senders[c] = task;
                values[c] = value;
            }
        }

        void removeSender(int c) {
            if (c >= 0 && c < CHANNELS) {
                senders[c] = Tasks.NONE;
            }
        }
    }

    /** TIME, and the tasks that wait for it, in the order in which they began to wait. */
    private static final class Sleepers {
        private final int[] sleeping;
        private final long[] ends;
        private int size;
        // Wider than an int, so that TIME grows however long the delays are.
        private long now;

        Sleepers() {
            sleeping = new int[Tasks.MOST];
            ends = new long[Tasks.MOST];
            size = 0;
            now = 0;
        }

        int size() {
            return size;
        }

        void removeAll() {
            size = 0;
        }

        void restart() {
            size = 0;
            now = 0;
        }

        void add(int task, int delay) {
            if (size >= 0 && size < Tasks.MOST) {
                sleeping[size] = task;
                ends[size] = now + delay;
                size++;
            }
        }

        void wakeNext(Line ready) {
            if (size == 0) {
                return;
            }
            now = leastEnd();
            int kept = 0;
            for (int k = 0; k < size && k < Tasks.MOST; k++) {
                if (ends[k] == now) {
                    ready.add(sleeping[k]);
                } else {
                    sleeping[kept] = sleeping[k];
                    ends[kept] = ends[k];
                    kept++;
                }
            }
            size = kept;
        }

        private long leastEnd() {
            long least = ends[0];
            for (int k = 1; k < size && k < Tasks.MOST; k++) {
                least = Math.min(least, ends[k]);
            }
            return least;
        }
    }

    /** Runs the code. The CURRENT task is the first one of the ready ones as long as it is CURRENT. */
    private static final class Engine {
        static final int CLASH = 3;
        static final int DEADLOCK = 4;
        static final int DIVISION = 5;

        private static final int NO_PROGRAM = 0;
        private static final int TO_BE_RUN = 1;
        private static final int OVER = 2;
        private static final int BROKEN = 3;

        private static final int NO_FAULT = 0;
        private static final int HOST_ROOM = 8;
        private static final int MOST_GUARDS = 4;
        private static final int CLOSED = -1;
        /** Far above the turns that 200 acts and 72 tasks can need. */
        private static final int MOST_TURNS = 100000;

        final Calculator calculator;
        final Meetings meetings;
        final Sleepers sleepers;
        final Tasks tasks;
        final Line ready;
        final Line gifts;
        final Line box;
        int state;
        int acts;
        private Code code;
        private final int[] guards;
        private int fault;

        Engine() {
            calculator = new Calculator();
            meetings = new Meetings();
            sleepers = new Sleepers();
            tasks = new Tasks();
            ready = new Line(Tasks.MOST);
            gifts = new Line(HOST_ROOM);
            box = new Line(HOST_ROOM);
            state = NO_PROGRAM;
            acts = 0;
            code = new Code();
            guards = new int[MOST_GUARDS];
            fault = NO_FAULT;
        }

        boolean isToBeRun() {
            return state == TO_BE_RUN;
        }

        /** Answers the code of the program before, whose room is free then. */
        Code begin(Code next) {
            Code old = code;
            code = next;
            removeTasks();
            calculator.clear();
            sleepers.restart();
            gifts.clear();
            box.clear();
            acts = 0;
            fault = NO_FAULT;
            state = start(0, Tasks.NONE) ? TO_BE_RUN : OVER;
            return old;
        }

        /** Makes a task; one without any ACT ends at once, is put nowhere, and the answer is false. */
        private boolean start(int at, int parent) {
            if (code.operation(at) == Code.END) {
                return false;
            }
            ready.add(tasks.make(at, parent));
            return true;
        }

        private void removeTasks() {
            tasks.clear();
            ready.clear();
            meetings.clear();
            sleepers.removeAll();
        }

        int perform(int most) {
            int done = 0;
            for (int turn = 0; turn < MOST_TURNS; turn++) {
                settle();
                if (state == OVER) {
                    return ENDED;
                }
                if (done == most) {
                    return MORE;
                }
                if (!ready.isEmpty()) {
                    done++;
                    acts++;
                    act(ready.first());
                } else if (sleepers.size() > 0) {
                    sleepers.wakeNext(ready);
                } else if (meetings.waitForHost()) {
                    return HOST;
                } else {
                    fault = DEADLOCK;
                }
                if (fault != NO_FAULT) {
                    state = BROKEN;
                    removeTasks();
                    return fault;
                }
            }
            return MORE;
        }

        /** Goes on with all that is no ACT, until the current task has one to do. */
        private void settle() {
            for (int turn = 0; turn < MOST_TURNS && !ready.isEmpty(); turn++) {
                int task = ready.first();
                int at = tasks.position(task);
                int operation = code.operation(at);
                if (operation == Code.END) {
                    end(task);
                } else if (operation == Code.YIELD) {
                    tasks.goTo(task, code.operand(at));
                    ready.add(ready.removeFirst());
                } else if (operation == Code.JUMP || operation == Code.GUARD) {
                    // A guard is come upon only from the end of the one before it, which was chosen.
                    tasks.goTo(task, code.operand(at));
                } else {
                    return;
                }
            }
        }

        private void end(int task) {
            ready.removeFirst();
            int parent = tasks.remove(task);
            if (parent == Tasks.NONE) {
                state = OVER;
            } else if (!tasks.hasChildren(parent)) {
                ready.add(parent);
            }
        }

        private void act(int task) {
            int at = calculator.evaluate(code, tasks.position(task));
            if (calculator.dividedByZero()) {
                fault = DIVISION;
                return;
            }
            int value = calculator.result();
            int operand = code.operand(at);
            tasks.goTo(task, at + 1);
            switch (code.operation(at)) {
                case Code.STORE: calculator.assign(operand, value); break;
                case Code.SEND: send(task, operand, value); break;
                case Code.RECEIVE: receive(task, at); break;
                case Code.STOP: ready.removeFirst(); break;
                case Code.SKIP_IF_ZERO: skipIfZero(task, operand, value); break;
                case Code.FORK: fork(task, at); break;
                case Code.PAUSE: pause(task, value); break;
                case Code.CHOOSE: choose(task, at); break;
                default: break;
            }
        }

        private void skipIfZero(int task, int target, int value) {
            if (value == 0) {
                tasks.goTo(task, target);
            }
        }

        private void pause(int task, int delay) {
            if (delay > 0) {
                ready.removeFirst();
                sleepers.add(task, delay);
            }
        }

        private void fork(int task, int at) {
            int behind = code.operand(at);
            tasks.goTo(task, behind);
            int child = at + 1;
            for (int k = 0; k < Code.MOST && child < behind; k++) {
                if (start(child + 1, task)) {
                    tasks.addChild(task);
                }
                child = code.operand(child);
            }
            if (tasks.hasChildren(task)) {
                ready.removeFirst();
            }
        }

        private void send(int task, int channel, int value) {
            if (channel == Meetings.TO_HOST && !box.isFull()) {
                box.add(value);
            } else if (meetings.receiver(channel) != Tasks.NONE) {
                deliver(channel, value);
            } else if (meetings.sender(channel) != Tasks.NONE) {
                fault = CLASH;
            } else {
                ready.removeFirst();
                meetings.addSender(channel, task, value);
            }
        }

        private void deliver(int channel, int value) {
            int receiver = meetings.receiver(channel);
            calculator.assign(meetings.target(channel), value);
            tasks.goTo(receiver, meetings.continuation(channel));
            meetings.removeReceiver(receiver);
            ready.add(receiver);
        }

        private void receive(int task, int at) {
            if (wouldWait(at)) {
                ready.removeFirst();
                waitForInput(task, at);
            } else {
                obtain(at);
            }
        }

        private boolean wouldWait(int at) {
            int channel = code.operand(at);
            return channel == Meetings.FROM_HOST ? gifts.isEmpty() : meetings.sender(channel) == Tasks.NONE;
        }

        private void obtain(int at) {
            int channel = code.operand(at);
            if (channel == Meetings.FROM_HOST) {
                calculator.assign(code.variableOf(at), gifts.removeFirst());
            } else {
                calculator.assign(code.variableOf(at), meetings.valueOf(channel));
                ready.add(meetings.sender(channel));
                meetings.removeSender(channel);
            }
        }

        private void waitForInput(int task, int at) {
            int channel = code.operand(at);
            int other = meetings.receiver(channel);
            if (other == Tasks.NONE) {
                meetings.addReceiver(channel, task, code.variableOf(at), at + 1);
            } else if (other != task) {
                fault = CLASH;
            }
        }

        private void choose(int task, int at) {
            int behind = code.operand(at);
            int guardCount = 0;
            int guard = at + 1;
            for (int k = 0; k < MOST_GUARDS && guard < behind; k++) {
                int input = calculator.evaluate(code, guard + 1);
                if (calculator.dividedByZero()) {
                    fault = DIVISION;
                    return;
                }
                guards[k] = calculator.result() != 0 ? input : CLOSED;
                guardCount++;
                guard = code.operand(guard);
            }
            if (!goThroughReadyGuard(task, guardCount)) {
                waitAtGuards(task, guardCount);
            }
        }

        private boolean goThroughReadyGuard(int task, int guardCount) {
            for (int k = 0; k < guardCount && k < MOST_GUARDS; k++) {
                int input = guards[k];
                if (input == CLOSED) {
                    continue;
                }
                boolean isInput = code.operation(input) == Code.RECEIVE;
                if (isInput && wouldWait(input)) {
                    continue;
                }
                if (isInput) {
                    obtain(input);
                }
                tasks.goTo(task, input + 1);
                return true;
            }
            return false;
        }

        private void waitAtGuards(int task, int guardCount) {
            ready.removeFirst();
            for (int k = 0; k < guardCount && k < MOST_GUARDS; k++) {
                if (guards[k] != CLOSED) {
                    waitForInput(task, guards[k]);
                }
            }
        }

        void acceptGift(int value) {
            if (meetings.receiver(Meetings.FROM_HOST) != Tasks.NONE) {
                deliver(Meetings.FROM_HOST, value);
            } else {
                gifts.add(value);
            }
        }

        /** Answers the first value of the box; a task that waits to put one in does so then. */
        int handOut() {
            int value = box.removeFirst();
            int sender = meetings.sender(Meetings.TO_HOST);
            if (sender != Tasks.NONE) {
                box.add(meetings.valueOf(Meetings.TO_HOST));
                meetings.removeSender(Meetings.TO_HOST);
                ready.add(sender);
            }
            return value;
        }
    }
}
