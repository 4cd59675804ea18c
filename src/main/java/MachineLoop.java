/**
 * A machine that runs jobs one after another. A job is a row of signs that work on a stack; each
 * one leaves device, resources and open files as they were before it.
 */
public final class MachineLoop {
    private static final int MOST_JOBS = 20;
    private static final int MOST_SIGNS = 200;
    private static final int MOST_PAGES = 40;
    private static final int MOST_STEPS = 20000;
    private static final int MOST_NUMBERS = 20;
    private static final int MOST_LOOPS = 4;

    private static final int SETTING_COUNT = 4;
    private static final int COPIES = 1;
    private static final int POLICY = 3;
    private static final int[] SETTING_AT_FIRST = {0, 1, 0, 0};
    private static final int[] SETTING_LEAST = {0, 1, 0, 0};
    private static final int[] SETTING_MOST = {3, 9, 1, 1};

    private static final int CATEGORY_COUNT = 4;
    private static final int RESOURCE_NAMES = 10;
    private static final int MOST_VALUE = 9999;

    private static final int FILE_COUNT = 10;
    private static final int FILE_BYTES = 100;
    private static final int OUTPUT_BYTES = 400;
    private static final int OUTPUT_HANDLE = 1;
    private static final int LAST_HANDLE = 7;
    private static final int READING = 0;
    private static final int WRITING = 1;
    private static final int GOING_ON = 2;
    private static final int MOST_FILTERS = 3;
    private static final int BITS_TURNED = 1;
    private static final int HALVES_CHANGED = 2;
    private static final int ONE_MORE = 3;
    private static final int BEHIND_LAST = 256;

    private static final int NOT_RUN = 0;
    private static final int AT_END = 1;
    private static final int FAILED = 2;
    private static final int STOPPED = 3;

    private static final int NO_ERROR = 0;
    private static final int ERROR_SIGN = 1;
    private static final int ERROR_RESOURCE = 2;
    private static final int ERROR_DEVICE = 3;
    private static final int ERROR_FILE = 4;
    private static final int ERROR_TOO_FEW = 5;
    private static final int ERROR_TOO_MUCH = 6;
    private static final int ERROR_NOT_CLOSED = 7;

    private static final int DONE = 1;
    private static final int UNKNOWN = -1;
    private static final int OUT_OF_RANGE = -2;
    private static final int WRONG_STATE = -3;
    private static final int NO_ROOM = -4;
    private static final int NONE = -1;

    private final Job[] jobs;
    private final Machine machine;
    private int jobCount;
    private boolean startsFail;

    public MachineLoop(long steps) {
        jobs = new Job[MOST_JOBS];
        machine = new Machine(steps);
        jobCount = 0;
        startsFail = false;
    }

    public int job() {
        if (jobCount >= MOST_JOBS) {
            return NO_ROOM;
        }
        jobs[jobCount] = new Job();
        jobCount++;
        return jobCount - 1;
    }

    public int add(int job, byte b) {
        Job known = jobOrNull(job);
        if (known == null) {
            return UNKNOWN;
        }
        if (known.outcome != NOT_RUN) {
            return WRONG_STATE;
        }
        return known.append(b);
    }

    public int run() {
        if (startsFail) {
            return WRONG_STATE;
        }
        int count = 0;
        for (int i = 0; i < MOST_JOBS; i++) {
            Job next = jobOrNull(i);
            if (next != null && next.outcome == NOT_RUN) {
                machine.execute(next);
                count++;
            }
        }
        return count;
    }

    public int ended(int job, int what) {
        Job known = jobOrNull(job);
        if (known == null) {
            return UNKNOWN;
        }
        switch (what) {
            case 0: return known.outcome;
            case 1: return known.error;
            case 2: return known.errorPlace;
            case 3: return known.pageCount;
            case 4: return known.steps;
            case 5: return known.flushed;
            default: return OUT_OF_RANGE;
        }
    }

    public int page(int job, int i) {
        Job known = jobOrNull(job);
        return known == null ? 0 : known.marksOf(i);
    }

    public int device(int setting, int v) {
        return machine.device.change(setting, v) ? 1 : 0;
    }

    public int define(int category, int name, int v) {
        return machine.resources.put(category, name, v);
    }

    public int resource(int category, int name) {
        return machine.resources.valueAt(category, name);
    }

    public int file(int name, int mode) {
        return machine.files.open(name, mode, false);
    }

    public int write(int handle, byte b) {
        return machine.files.put(handle, b);
    }

    public int read(int handle) {
        return machine.files.take(handle);
    }

    public int filter(int handle, int kind) {
        return machine.files.putFilter(handle, kind);
    }

    public int close(int handle) {
        return machine.files.shut(handle);
    }

    public boolean startFails(boolean on) {
        boolean before = startsFail;
        startsFail = on;
        return before;
    }

    public int output(int i) {
        return machine.files.outputByte(i);
    }

    public int lies(int name, int i) {
        return machine.files.fileByte(name, i);
    }

    private Job jobOrNull(int number) {
        if (number < 0 || number >= jobCount || number >= MOST_JOBS) {
            return null;
        }
        return jobs[number];
    }

    /** The signs of one job, and how it ended. */
    private static final class Job {
        final byte[] signs;
        final int[] pages;
        int length;
        int pageCount;
        int outcome;
        int error;
        int errorPlace;
        int steps;
        int flushed;

        Job() {
            signs = new byte[MOST_SIGNS];
            pages = new int[MOST_PAGES];
            length = 0;
            pageCount = 0;
            outcome = NOT_RUN;
            error = NO_ERROR;
            errorPlace = 0;
            steps = 0;
            flushed = 0;
        }

        int append(byte sign) {
            if (length >= MOST_SIGNS) {
                return NO_ROOM;
            }
            signs[length] = sign;
            length++;
            return length;
        }

        int signAt(int place) {
            return place < 0 || place >= length ? NONE : signs[place];
        }

        int marksOf(int page) {
            return page < 0 || page >= pageCount ? 0 : pages[page];
        }

        boolean show(int marks, int copies) {
            if (copies > MOST_PAGES - pageCount) {
                return false;
            }
            for (int i = 0; i < copies; i++) {
                pages[pageCount] = marks;
                pageCount++;
            }
            return true;
        }

        void fail(int code, int place) {
            outcome = FAILED;
            error = code;
            errorPlace = place;
            flushed = length - place - 1;
        }
    }

    /** The settings of the device, with a copy of them from before a job. */
    private static final class Device {
        private final int[] settings;
        private final int[] kept;

        Device() {
            settings = new int[SETTING_COUNT];
            kept = new int[SETTING_COUNT];
            for (int i = 0; i < SETTING_COUNT; i++) {
                settings[i] = SETTING_AT_FIRST[i];
            }
        }

        boolean change(int setting, int v) {
            if (setting < 0 || setting >= SETTING_COUNT) {
                return false;
            }
            if (v < SETTING_LEAST[setting] || v > SETTING_MOST[setting]) {
                return false;
            }
            settings[setting] = v;
            return true;
        }

        int copies() {
            return settings[COPIES];
        }

        boolean passesOverWrongRequests() {
            return settings[POLICY] == 1;
        }

        void keep() {
            System.arraycopy(settings, 0, kept, 0, SETTING_COUNT);
        }

        void putBack() {
            System.arraycopy(kept, 0, settings, 0, SETTING_COUNT);
        }
    }

    /** The values of the resources, with a copy of them from before a job. */
    private static final class Resources {
        private final int[] values;
        private final int[] kept;

        Resources() {
            values = new int[CATEGORY_COUNT * RESOURCE_NAMES];
            kept = new int[CATEGORY_COUNT * RESOURCE_NAMES];
            for (int i = 0; i < values.length; i++) {
                values[i] = NONE;
            }
        }

        int put(int category, int name, int v) {
            int slot = slotOf(category, name);
            if (slot == NONE) {
                return UNKNOWN;
            }
            if (v < 0 || v > MOST_VALUE) {
                return OUT_OF_RANGE;
            }
            values[slot] = v;
            return DONE;
        }

        int valueAt(int category, int name) {
            int slot = slotOf(category, name);
            if (slot == NONE) {
                return UNKNOWN;
            }
            return values[slot] == NONE ? WRONG_STATE : values[slot];
        }

        void keep() {
            System.arraycopy(values, 0, kept, 0, values.length);
        }

        void putBack() {
            System.arraycopy(kept, 0, values, 0, values.length);
        }

        private static int slotOf(int category, int name) {
            if (category < 0 || category >= CATEGORY_COUNT || name < 0 || name >= RESOURCE_NAMES) {
                return NONE;
            }
            return category * RESOURCE_NAMES + name;
        }
    }

    /** The bytes of a file, or of OUTPUT, as they lie there. */
    private static final class Store {
        private final byte[] bytes;
        private int size;
        boolean isThere;

        Store(int room) {
            bytes = new byte[Math.max(0, room)];
            size = 0;
            isThere = false;
        }

        void makeEmpty() {
            isThere = true;
            size = 0;
        }

        boolean isFull() {
            return size >= bytes.length;
        }

        void append(int v) {
            if (!isFull()) {
                bytes[size] = (byte) v;
                size++;
            }
        }

        int byteAt(int i) {
            return i < 0 || i >= size ? NONE : bytes[i] & 255;
        }
    }

    /** A way to a store, through filters; it is open as long as it has a store. */
    private static final class Handle {
        private final int[] filters;
        private int filterCount;
        private int keptFilterCount;
        private int place;
        Store store;
        int mode;
        boolean isOfJob;

        Handle() {
            filters = new int[MOST_FILTERS];
            detach();
        }

        void attach(Store target, int newMode, boolean ofJob) {
            detach();
            store = target;
            mode = newMode;
            isOfJob = ofJob;
        }

        void detach() {
            store = null;
            mode = READING;
            isOfJob = false;
            place = 0;
            filterCount = 0;
            keptFilterCount = 0;
        }

        int layFilter(int kind) {
            if (filterCount >= MOST_FILTERS) {
                return NO_ROOM;
            }
            filters[filterCount] = kind;
            filterCount++;
            return filterCount;
        }

        void keepFilters() {
            keptFilterCount = filterCount;
        }

        void putBackFilters() {
            filterCount = keptFilterCount;
        }

        int asWritten(int v) {
            int changed = v & 255;
            for (int i = filterCount - 1; i >= 0; i--) {
                changed = throughFilter(filters[i], changed, 1);
            }
            return changed;
        }

        int nextByte(Store from) {
            int lying = from.byteAt(place);
            if (lying == NONE) {
                return BEHIND_LAST;
            }
            place++;
            for (int i = 0; i < filterCount; i++) {
                lying = throughFilter(filters[i], lying, -1);
            }
            return lying;
        }

        private static int throughFilter(int kind, int v, int more) {
            switch (kind) {
                case BITS_TURNED: return 255 - v;
                case HALVES_CHANGED: return (v >> 4) | ((v & 15) << 4);
                case ONE_MORE: return (v + more) & 255;
                default: return v;
            }
        }
    }

    /** The files, OUTPUT, and the handles to them. */
    private static final class FileTree {
        private final Store[] stores;
        private final Store output;
        private final Handle[] handles;

        FileTree() {
            stores = new Store[FILE_COUNT];
            for (int i = 0; i < FILE_COUNT; i++) {
                stores[i] = new Store(FILE_BYTES);
            }
            output = new Store(OUTPUT_BYTES);
            Handle toOutput = new Handle();
            toOutput.attach(output, WRITING, false);
            handles = new Handle[LAST_HANDLE + 1];
            handles[OUTPUT_HANDLE] = toOutput;
            for (int i = OUTPUT_HANDLE + 1; i <= LAST_HANDLE; i++) {
                handles[i] = new Handle();
            }
        }

        int open(int name, int mode, boolean ofJob) {
            Store store = storeOrNull(name);
            if (store == null) {
                return UNKNOWN;
            }
            if (mode < READING || mode > GOING_ON) {
                return OUT_OF_RANGE;
            }
            if (mode == READING && !store.isThere || isHeldAgainst(store, mode)) {
                return WRONG_STATE;
            }
            int number = freeHandle();
            Handle handle = handleOrNull(number);
            if (handle == null) {
                return NO_ROOM;
            }
            if (mode == WRITING || !store.isThere) {
                store.makeEmpty();
            }
            handle.attach(store, mode, ofJob);
            return number;
        }

        int put(int number, int v) {
            Handle handle = openOrNull(number);
            if (handle == null || handle.store == null) {
                return UNKNOWN;
            }
            if (handle.mode == READING) {
                return WRONG_STATE;
            }
            if (handle.store.isFull()) {
                return NO_ROOM;
            }
            handle.store.append(handle.asWritten(v));
            return DONE;
        }

        int take(int number) {
            Handle handle = openOrNull(number);
            if (handle == null || handle.store == null) {
                return UNKNOWN;
            }
            if (handle.mode != READING) {
                return WRONG_STATE;
            }
            return handle.nextByte(handle.store);
        }

        int putFilter(int number, int kind) {
            Handle handle = openOrNull(number);
            if (handle == null) {
                return UNKNOWN;
            }
            if (kind < BITS_TURNED || kind > ONE_MORE) {
                return OUT_OF_RANGE;
            }
            return handle.layFilter(kind);
        }

        int shut(int number) {
            Handle handle = openOrNull(number);
            if (handle == null) {
                return UNKNOWN;
            }
            if (number == OUTPUT_HANDLE) {
                return WRONG_STATE;
            }
            handle.detach();
            return DONE;
        }

        /** A job may shut its own handles alone. */
        int shutByJob(int number) {
            Handle handle = openOrNull(number);
            if (handle == null || !handle.isOfJob) {
                return UNKNOWN;
            }
            handle.detach();
            return DONE;
        }

        int outputByte(int i) {
            return output.byteAt(i);
        }

        int fileByte(int name, int i) {
            Store store = storeOrNull(name);
            return store == null ? NONE : store.byteAt(i);
        }

        void keep() {
            for (int i = OUTPUT_HANDLE; i <= LAST_HANDLE; i++) {
                Handle handle = handleOrNull(i);
                if (handle != null) {
                    handle.keepFilters();
                }
            }
        }

        void putBack() {
            for (int i = OUTPUT_HANDLE; i <= LAST_HANDLE; i++) {
                Handle handle = handleOrNull(i);
                if (handle != null && handle.isOfJob) {
                    handle.detach();
                } else if (handle != null) {
                    handle.putBackFilters();
                }
            }
        }

        private Store storeOrNull(int name) {
            return name < 0 || name >= FILE_COUNT ? null : stores[name];
        }

        private Handle handleOrNull(int number) {
            return number < OUTPUT_HANDLE || number > LAST_HANDLE ? null : handles[number];
        }

        private Handle openOrNull(int number) {
            Handle handle = handleOrNull(number);
            return handle == null || handle.store == null ? null : handle;
        }

        /** Many may read a file at once, but who writes it has it alone. */
        private boolean isHeldAgainst(Store store, int mode) {
            for (int i = OUTPUT_HANDLE + 1; i <= LAST_HANDLE; i++) {
                Handle handle = handleOrNull(i);
                if (handle != null && handle.store == store
                        && (mode != READING || handle.mode != READING)) {
                    return true;
                }
            }
            return false;
        }

        private int freeHandle() {
            for (int i = OUTPUT_HANDLE + 1; i <= LAST_HANDLE; i++) {
                Handle handle = handleOrNull(i);
                if (handle != null && handle.store == null) {
                    return i;
                }
            }
            return NONE;
        }
    }

    /** The numbers that a job works on. */
    private static final class Numbers {
        private final int[] numbers;
        private int height;

        Numbers() {
            numbers = new int[MOST_NUMBERS];
            height = 0;
        }

        void clear() {
            height = 0;
        }

        boolean has(int count) {
            return height >= count;
        }

        /** Answers as a sign does: with an error or none. */
        int lay(int v) {
            if (height >= MOST_NUMBERS) {
                return ERROR_TOO_MUCH;
            }
            numbers[height] = v;
            height++;
            return NO_ERROR;
        }

        int layTwo(int lower, int upper) {
            int error = lay(lower);
            return error == NO_ERROR ? lay(upper) : error;
        }

        int take() {
            if (height < 1) {
                return 0;
            }
            height--;
            return numbers[height];
        }
    }

    /**
     * What is known of a job's signs before it runs: where the next sign that is done stands, and
     * which braces go together. It is made once, so that a loop does not look for them each time.
     */
    private static final class Plan {
        private final int[] doneFrom;
        private final int[] mates;
        private final int[] openBraces;
        private int length;

        Plan() {
            doneFrom = new int[MOST_SIGNS];
            mates = new int[MOST_SIGNS];
            openBraces = new int[MOST_SIGNS];
            length = 0;
        }

        void prepare(Job job) {
            length = Math.min(job.length, MOST_SIGNS);
            findDoneSigns(job);
            findMates(job);
        }

        /** The place of the first sign at this place or behind it that is not passed over. */
        int firstDoneFrom(int place) {
            return place < 0 || place >= length ? length : doneFrom[place];
        }

        /** The place of the brace that goes with the one at this place. */
        int mateOf(int place) {
            return place < 0 || place >= length ? NONE : mates[place];
        }

        private void findDoneSigns(Job job) {
            boolean inRemark = false;
            for (int i = 0; i < length; i++) {
                int sign = job.signAt(i);
                inRemark = inRemark || sign == '%';
                doneFrom[i] = inRemark || sign == ' ' || sign == '\n' ? NONE : i;
                inRemark = inRemark && sign != '\n';
            }
            int next = length;
            for (int i = length - 1; i >= 0; i--) {
                next = doneFrom[i] == NONE ? next : i;
                doneFrom[i] = next;
            }
        }

        private void findMates(Job job) {
            int openCount = 0;
            for (int i = 0; i < length; i++) {
                mates[i] = NONE;
                int sign = doneFrom[i] == i ? job.signAt(i) : NONE;
                if (sign == '{' && openCount < MOST_SIGNS) {
                    openBraces[openCount] = i;
                    openCount++;
                } else if (sign == '}' && openCount > 0) {
                    openCount--;
                    mates[i] = openBraces[openCount];
                    mates[openBraces[openCount]] = i;
                }
            }
        }
    }

    /** Does the signs of a job, on the device, the resources and the files. */
    private static final class Machine {
        final Device device;
        final Resources resources;
        final FileTree files;
        private final int stepLimit;
        private final Numbers stack;
        private final Plan plan;
        private final int[] timesLeft;
        private int loopCount;
        private int marks;
        private int nextPlace;

        Machine(long steps) {
            device = new Device();
            resources = new Resources();
            files = new FileTree();
            stepLimit = (int) Math.max(0L, Math.min(steps, MOST_STEPS));
            stack = new Numbers();
            plan = new Plan();
            timesLeft = new int[MOST_LOOPS];
            loopCount = 0;
            marks = 0;
            nextPlace = 0;
        }

        /** Each turn is a step, and one turn more tells whether the job is at its end or stops. */
        void execute(Job job) {
            begin(job);
            for (int turn = 0; turn <= stepLimit && job.outcome == NOT_RUN; turn++) {
                int place = nextPlace;
                if (place >= job.length) {
                    job.outcome = AT_END;
                } else if (turn == stepLimit) {
                    job.outcome = STOPPED;
                } else {
                    job.steps++;
                    nextPlace = plan.firstDoneFrom(place + 1);
                    int error = doSign(job, job.signAt(place), place);
                    if (error != NO_ERROR) {
                        job.fail(error, place);
                    }
                }
            }
            finish();
        }

        private void begin(Job job) {
            device.keep();
            resources.keep();
            files.keep();
            plan.prepare(job);
            stack.clear();
            loopCount = 0;
            marks = 0;
            nextPlace = plan.firstDoneFrom(0);
        }

        private void finish() {
            device.putBack();
            resources.putBack();
            files.putBack();
        }

        private int doSign(Job job, int sign, int place) {
            if (sign >= '0' && sign <= '9') {
                return stack.lay(sign - '0');
            }
            int wanted = numbersWanted(sign);
            if (wanted == NONE) {
                return ERROR_SIGN;
            }
            if (!stack.has(wanted)) {
                return ERROR_TOO_FEW;
            }
            int third = wanted > 2 ? stack.take() : 0;
            int second = wanted > 1 ? stack.take() : 0;
            int first = wanted > 0 ? stack.take() : 0;
            switch (sign) {
                case '{': return enterLoop(place, first);
                case '}': return comeToLoopEnd(place);
                case 's': return showPage(job);
                case 'm':
                    marks = 31 * marks + first;
                    return NO_ERROR;
                case 'q':
                    job.outcome = AT_END;
                    return NO_ERROR;
                case 'g': return request(first, second);
                case 'R': return layUnlessRefused(resources.valueAt(first, second), ERROR_RESOURCE);
                case 'D': return errorIfRefused(resources.put(first, second, third), ERROR_RESOURCE);
                case 'o': case 'c': case 'w': case 'r': case 'f':
                    return doFileSign(sign, first, second);
                default: return doStackSign(sign, first, second);
            }
        }

        private int doStackSign(int sign, int a, int b) {
            switch (sign) {
                case 't': return stack.lay(10 * a);
                case '+': return stack.lay(a + b);
                case '-': return stack.lay(a - b);
                case '*': return stack.lay(a * b);
                case 'd': return stack.layTwo(a, a);
                case 'x': return stack.layTwo(b, a);
                default: return NO_ERROR;
            }
        }

        private int doFileSign(int sign, int first, int second) {
            switch (sign) {
                case 'o': return layUnlessRefused(files.open(first, second, true), ERROR_FILE);
                case 'c': return errorIfRefused(files.shutByJob(first), ERROR_FILE);
                case 'w': return errorIfRefused(files.put(first, second), ERROR_FILE);
                case 'f': return errorIfRefused(files.putFilter(first, second), ERROR_FILE);
                default: return layByte(files.take(first));
            }
        }

        /** Signs tell the place behind the last byte by another number than the calls do. */
        private int layByte(int taken) {
            return taken == BEHIND_LAST ? stack.lay(-1) : layUnlessRefused(taken, ERROR_FILE);
        }

        private int layUnlessRefused(int answer, int error) {
            return answer < 0 ? error : stack.lay(answer);
        }

        private static int errorIfRefused(int answer, int error) {
            return answer < 0 ? error : NO_ERROR;
        }

        private int request(int setting, int v) {
            boolean isFine = device.change(setting, v) || device.passesOverWrongRequests();
            return isFine ? NO_ERROR : ERROR_DEVICE;
        }

        private int showPage(Job job) {
            if (!job.show(marks, device.copies())) {
                return ERROR_TOO_MUCH;
            }
            marks = 0;
            return NO_ERROR;
        }

        private int enterLoop(int place, int times) {
            if (loopCount >= MOST_LOOPS) {
                return ERROR_TOO_MUCH;
            }
            int end = plan.mateOf(place);
            if (end == NONE) {
                return ERROR_NOT_CLOSED;
            }
            if (times < 1) {
                nextPlace = plan.firstDoneFrom(end + 1);
                return NO_ERROR;
            }
            timesLeft[loopCount] = times;
            loopCount++;
            return NO_ERROR;
        }

        private int comeToLoopEnd(int place) {
            int start = plan.mateOf(place);
            if (start == NONE || loopCount < 1) {
                return ERROR_SIGN;
            }
            timesLeft[loopCount - 1]--;
            if (timesLeft[loopCount - 1] > 0) {
                nextPlace = plan.firstDoneFrom(start + 1);
            } else {
                loopCount--;
            }
            return NO_ERROR;
        }

        /** How many numbers a sign takes from the stack; NONE if there is no such sign. */
        private static int numbersWanted(int sign) {
            switch (sign) {
                case 's': case '}': case 'q':
                    return 0;
                case 't': case 'd': case 'p': case 'm': case 'c': case 'r': case '{':
                    return 1;
                case '+': case '-': case '*': case 'x': case 'g': case 'R': case 'o': case 'w': case 'f':
                    return 2;
                case 'D':
                    return 3;
                default:
                    return NONE;
            }
        }
    }
}
