/** A host of guests with paging in two stages; ../shared/DOC.md says what each call promises. */
public final class NestedPager {
    public static final int NONE = -1, FAULT = -2, EXIT = -3, ROOM = -4;

    private static final int FRAMES = 128, SLOTS = 64, WORDS = 16;
    private static final int GUESTS = 4, VCPUS = 8, MOST_RAM = 128;
    private static final int ADDRESSES = 4096, PAGES = 256, HOST_ADDRESSES = 2048;
    private static final int WORD = 65535;
    private static final int READ = 0, WRITE = 1, FETCH = 2;
    private static final int CONSOLE = 240, CLOCK = 241, DISK = 242, POST = 243;
    private static final int NOTHING = 1, REFUSED = 2, AWAY = 3, NOROOM = 4, DEVICE = 5, FAULTED = 6;
    private static final int[] HIGHEST = {
        WORD, WORD, ADDRESSES - 1, 1, 3, PAGES - 1, 3, ADDRESSES - 1, ADDRESSES - 1, 1
    };

    private final Memory memory = new Memory();
    private final Guest[] guests = new Guest[GUESTS];
    private final Vcpu[] vcpus = new Vcpu[VCPUS];
    private final int[] harvested = new int[MOST_RAM];
    private int harvestedPages = 0;
    private final Pager pager;
    private final Devices devices;
    private final Translator translator;
    private final Processor processor;

    public NestedPager() {
        for (int g = 0; g < GUESTS; g++) {
            guests[g] = new Guest(g);
        }
        for (int i = 0; i < VCPUS; i++) {
            vcpus[i] = new Vcpu(i);
        }
        pager = new Pager(memory);
        devices = new Devices(pager, guests, vcpus);
        translator = new Translator(pager, devices);
        processor = new Processor(pager, devices, translator);
    }

    public int guest(int ram) throws IllegalArgumentException {
        argument(within(ram, 1, MOST_RAM));
        int root = memory.freeFrame();
        for (int g = 0; g < GUESTS && root >= 0; g++) {
            if (!guests[g].there) {
                memory.claim(root, Memory.TABLE, g, PAGES);
                memory.reclaims[g] = 0;
                guests[g].begin(ram, root);
                return g;
            }
        }
        return ROOM;
    }

    public int destroy(int guest) throws IllegalArgumentException, IllegalStateException {
        argument(isGuest(guest));
        Guest g = guestThere(guest);
        for (int i = 0; i < VCPUS; i++) {
            if (vcpus[i].isOf(guest)) {
                vcpus[i].there = false;
            }
        }
        g.there = false;
        return memory.releaseGuest(guest, g.root, g.ram);
    }

    public int vcpu(int guest) throws IllegalArgumentException, IllegalStateException {
        argument(isGuest(guest));
        guestThere(guest);
        for (int i = 0; i < VCPUS; i++) {
            if (!vcpus[i].there) {
                vcpus[i].begin(guest);
                return i;
            }
        }
        return ROOM;
    }

    public void set(int vcpu, int what, int v) throws IllegalArgumentException, IllegalStateException {
        argument(isVcpu(vcpu) && within(what, Vcpu.A, Vcpu.EMODE));
        int lowest = what == Vcpu.HANDLER ? NONE : 0;
        argument(within(v, lowest, HIGHEST[what]));
        vcpuThere(vcpu).reg[what] = v;
    }

    public int get(int vcpu, int what) throws IllegalArgumentException, IllegalStateException {
        argument(isVcpu(vcpu) && within(what, Vcpu.A, Vcpu.FAULT_ADDRESS));
        return vcpuThere(vcpu).reg[what];
    }

    public int access(int vcpu, int kind, int address, int v) throws IllegalArgumentException, IllegalStateException {
        argument(isVcpu(vcpu) && within(kind, READ, FETCH) && isAddress(address) && isWord(v));
        Vcpu c = vcpuThere(vcpu);
        devices.tick(devices.guestOf(c));
        return translator.touch(c, kind, address, v);
    }

    public int run(int vcpu, int n) throws IllegalArgumentException, IllegalStateException {
        argument(isVcpu(vcpu) && within(n, 1, 1000));
        Vcpu c = vcpuThere(vcpu);
        if (c.reg[Vcpu.STATE] == Vcpu.HALTED && c.reg[Vcpu.EVENTS] == 0) {
            return 0;
        }
        c.reg[Vcpu.STATE] = Vcpu.RUNS;
        int done = 0;
        for (int tried = 0; tried < n && c.reg[Vcpu.STATE] == Vcpu.RUNS; tried++) {
            if (processor.step(c)) {
                done++;
            }
        }
        c.reg[Vcpu.STEPS] += done;
        return done;
    }

    public int exit(int vcpu, int what) throws IllegalArgumentException, IllegalStateException {
        argument(isVcpu(vcpu) && within(what, 0, Vcpu.EXIT_FIELDS - 1));
        return vcpuThere(vcpu).lastExit[what];
    }

    public int flush(int vcpu, int how, int address) throws IllegalArgumentException, IllegalStateException {
        argument(isVcpu(vcpu) && within(how, LookAside.ALL, LookAside.FITTING) && isAddress(address));
        Vcpu c = vcpuThere(vcpu);
        return c.aside.clear(how, c.reg[Vcpu.ASID], address);
    }

    public int aside(int vcpu, int i, int what) throws IllegalArgumentException, IllegalStateException {
        argument(isVcpu(vcpu) && within(i, 0, LookAside.PLACES - 1) && within(what, 0, 3));
        return vcpuThere(vcpu).aside.told(i, what);
    }

    public int deny(int guest, int page, int v) throws IllegalArgumentException, IllegalStateException {
        argument(isGuest(guest) && isMemoryPage(page) && within(v, 0, Memory.DENIED));
        Guest g = guestThere(guest);
        state(page < g.ram);
        int was = memory.entryOf(g.root, page);
        int spot = memory.spotOf(g.root, page);
        if (spot < 0 && v == 0) {
            return 0;
        }
        if (spot < 0) {
            spot = memory.linkTable(g.root, guest, page, memory.newFrame());
        }
        if (spot < 0) {
            return ROOM;
        }
        memory.words[spot] = was & ~Memory.DENIED | v;
        return was & Memory.DENIED;
    }

    public int swap(int guest, int page) throws IllegalArgumentException, IllegalStateException {
        argument(isGuest(guest) && isMemoryPage(page));
        int frame = frameOfPageHere(guestThere(guest), page);
        int slot = memory.freeSlot();
        if (slot < 0) {
            return ROOM;
        }
        memory.storeInSlot(frame, slot);
        memory.release(frame);
        return slot;
    }

    public int move(int guest, int page) throws IllegalArgumentException, IllegalStateException {
        argument(isGuest(guest) && isMemoryPage(page));
        int from = frameOfPageHere(guestThere(guest), page);
        int to = memory.freeFrame();
        if (to < 0) {
            return ROOM;
        }
        memory.moveFrame(from, to);
        return to;
    }

    public int target(int guest, int n) throws IllegalArgumentException, IllegalStateException {
        argument(isGuest(guest) && within(n, 0, MOST_RAM));
        Guest g = guestThere(guest);
        int was = g.target;
        g.target = n;
        return was;
    }

    public int harvest(int guest) throws IllegalArgumentException, IllegalStateException {
        argument(isGuest(guest));
        Guest g = guestThere(guest);
        harvestedPages = 0;
        for (int page = 0; page < g.ram; page++) {
            int spot = memory.spotOf(g.root, page);
            if (spot >= 0 && (memory.words[spot] & Memory.DIRTY) != 0) {
                memory.words[spot] &= ~Memory.DIRTY;
                harvested[harvestedPages] = page;
                harvestedPages++;
            }
        }
        return harvestedPages;
    }

    public int dirty(int k) {
        return within(k, 0, harvestedPages - 1) ? harvested[k] : NONE;
    }

    public int entry(int guest, int page) throws IllegalArgumentException, IllegalStateException {
        argument(isGuest(guest) && isMemoryPage(page));
        return memory.entryOf(guestThere(guest).root, page);
    }

    public int poke(int guest, int address, int a, int b, int c, int d)
            throws IllegalArgumentException, IllegalStateException {
        argument(isGuest(guest) && isHostAddress(address) && address % 4 == 0);
        argument(isWord(a) && isWord(b) && isWord(c) && isWord(d));
        int frame = pager.reach(guestThere(guest), address / WORDS, 0, Memory.DIRTY);
        if (frame < 0) {
            return -frame;
        }
        int at = frame * WORDS + address % WORDS;
        memory.words[at] = a;
        memory.words[at + 1] = b;
        memory.words[at + 2] = c;
        memory.words[at + 3] = d;
        return 0;
    }

    public int peek(int guest, int address) throws IllegalArgumentException, IllegalStateException {
        argument(isGuest(guest) && isHostAddress(address));
        int entry = memory.entryOf(guestThere(guest).root, address / WORDS);
        return memory.wordBehind(entry, address % WORDS);
    }

    public int frame(int frame, int i) throws IllegalArgumentException {
        argument(isFrame(frame) && within(i, 0, WORDS - 1));
        return memory.words[frame * WORDS + i];
    }

    public int owner(int frame, int what) throws IllegalArgumentException {
        argument(isFrame(frame) && within(what, 0, 2));
        switch (what) {
            case 0: return memory.role[frame];
            case 1: return memory.holder[frame];
            default: return memory.firstPage[frame];
        }
    }

    public int count(int guest, int what) throws IllegalArgumentException, IllegalStateException {
        argument(isGuest(guest) && within(what, 0, 11));
        Guest g = guestThere(guest);
        switch (what) {
            case 0: return g.ram;
            case 1: return g.target;
            case 2: return memory.pagesOfKind(g.root, g.ram, Memory.HERE);
            case 3: return memory.pagesOfKind(g.root, g.ram, Memory.SWAPPED);
            case 4: return memory.pagesOfKind(g.root, g.ram, Memory.GIVEN);
            case 5: return g.demands;
            case 6: return g.swapins;
            case 7: return memory.reclaims[guest];
            case 8: return g.ticks;
            case 9: return g.bytesPrinted;
            case 10: return g.mails.held;
            default: return devices.vcpusOf(guest);
        }
    }

    public int printed(int guest, int k) throws IllegalArgumentException, IllegalStateException {
        argument(isGuest(guest));
        return guestThere(guest).byteKept(k);
    }

    public int host(int what) throws IllegalArgumentException {
        argument(within(what, 0, 4));
        switch (what) {
            case 0: return memory.freeFrames();
            case 1: return memory.freeSlots();
            case 2: return memory.hand;
            case 3: return devices.guestsThere();
            default: return devices.vcpusThere();
        }
    }

    private static void argument(boolean isOne) {
        if (!isOne) {
            throw new IllegalArgumentException();
        }
    }

    private static void state(boolean holds) {
        if (!holds) {
            throw new IllegalStateException();
        }
    }

    private static boolean within(int v, int lowest, int highest) {
        return v >= lowest && v <= highest;
    }

    private static boolean isGuest(int v) {
        return within(v, 0, GUESTS - 1);
    }

    private static boolean isVcpu(int v) {
        return within(v, 0, VCPUS - 1);
    }

    private static boolean isMemoryPage(int v) {
        return within(v, 0, MOST_RAM - 1);
    }

    private static boolean isAddress(int v) {
        return within(v, 0, ADDRESSES - 1);
    }

    private static boolean isHostAddress(int v) {
        return within(v, 0, HOST_ADDRESSES - 1);
    }

    private static boolean isWord(int v) {
        return within(v, 0, WORD);
    }

    private static boolean isFrame(int v) {
        return within(v, 0, FRAMES - 1);
    }

    private static boolean isDevice(int page) {
        return within(page, CONSOLE, POST);
    }

    private Guest guestThere(int number) {
        state(guests[number].there);
        return guests[number];
    }

    private Vcpu vcpuThere(int number) {
        state(vcpus[number].there);
        return vcpus[number];
    }

    private int frameOfPageHere(Guest g, int page) {
        int entry = memory.entryOf(g.root, page);
        state((entry & Memory.KIND) == Memory.HERE);
        return Memory.frameIn(entry);
    }

    /** The host's frames and slots, and the guests' tables in them. */
    private static final class Memory {
        static final int FREE = 0, TABLE = 1, PAGE = 2;
        static final int DENIED = 7, ACCESSED = 8, DIRTY = 16;
        static final int KIND = 96, FRESH = 0, HERE = 32, SWAPPED = 64, GIVEN = 96;

        final int[] words = new int[FRAMES * WORDS];
        final int[] role = new int[FRAMES];
        final int[] holder = new int[FRAMES];
        final int[] firstPage = new int[FRAMES];
        // Tables never move, so a page's frame can keep where its entry stands.
        final int[] entrySpot = new int[FRAMES];
        final int[] slotWords = new int[SLOTS * WORDS];
        final boolean[] slotUsed = new boolean[SLOTS];
        final int[] reclaims = new int[GUESTS];
        int hand = 0;

        Memory() {
            for (int frame = 0; frame < FRAMES; frame++) {
                holder[frame] = NONE;
                firstPage[frame] = NONE;
            }
        }

        static int frameIn(int entry) {
            return entry / 256 % FRAMES;
        }

        static int slotIn(int entry) {
            return entry / 256 % SLOTS;
        }

        int freeFrame() {
            for (int frame = 0; frame < FRAMES; frame++) {
                if (role[frame] == FREE) {
                    return frame;
                }
            }
            return NONE;
        }

        int freeSlot() {
            for (int slot = 0; slot < SLOTS; slot++) {
                if (!slotUsed[slot]) {
                    return slot;
                }
            }
            return NONE;
        }

        int freeFrames() {
            int free = 0;
            for (int frame = 0; frame < FRAMES; frame++) {
                free += role[frame] == FREE ? 1 : 0;
            }
            return free;
        }

        int freeSlots() {
            int free = 0;
            for (int slot = 0; slot < SLOTS; slot++) {
                free += slotUsed[slot] ? 0 : 1;
            }
            return free;
        }

        /** A frame to be claimed before the next one is asked for, or NONE. */
        int newFrame() {
            int frame = freeFrame();
            if (frame >= 0) {
                return frame;
            }
            int slot = freeSlot();
            frame = slot < 0 ? NONE : handStop();
            if (frame >= 0) {
                reclaims[holder[frame]]++;
                storeInSlot(frame, slot);
                release(frame);
            }
            return frame;
        }

        private int handStop() {
            for (int passed = 0; passed < 2 * FRAMES; passed++) {
                int frame = hand;
                hand = (hand + 1) % FRAMES;
                if (role[frame] == PAGE) {
                    int spot = entrySpot[frame];
                    if ((words[spot] & ACCESSED) == 0) {
                        return frame;
                    }
                    words[spot] &= ~ACCESSED;
                }
            }
            return NONE;
        }

        void storeInSlot(int frame, int slot) {
            for (int i = 0; i < WORDS; i++) {
                slotWords[slot * WORDS + i] = words[frame * WORDS + i];
            }
            slotUsed[slot] = true;
            int spot = entrySpot[frame];
            words[spot] = words[spot] & (DENIED | DIRTY) | SWAPPED | slot * 256;
        }

        void claim(int frame, int newRole, int guest, int page) {
            role[frame] = newRole;
            holder[frame] = guest;
            firstPage[frame] = page;
        }

        // The words go now, because a free frame is promised to show zeros.
        void release(int frame) {
            for (int i = 0; i < WORDS; i++) {
                words[frame * WORDS + i] = 0;
            }
            role[frame] = FREE;
            holder[frame] = NONE;
            firstPage[frame] = NONE;
        }

        /** Where the entry of a page stands in words, NONE without a table. */
        int spotOf(int root, int page) {
            int link = words[root * WORDS + page / 16];
            return link == 0 ? NONE : frameIn(link) * WORDS + page % 16;
        }

        int entryOf(int root, int page) {
            int spot = spotOf(root, page);
            return spot < 0 ? 0 : words[spot];
        }

        // The caller asks for the frame, so that few calls stand open when one is reclaimed.
        int linkTable(int root, int guest, int page, int frame) {
            if (frame < 0) {
                return NONE;
            }
            claim(frame, TABLE, guest, page / 16 * 16);
            words[root * WORDS + page / 16] = frame * 256 + 1;
            return frame * WORDS + page % 16;
        }

        /** Makes a page HERE in a frame, with its slot's words if it was swapped. */
        int settle(int frame, int guest, int page, int spot) {
            int entry = words[spot];
            if ((entry & KIND) == SWAPPED) {
                int slot = slotIn(entry);
                for (int i = 0; i < WORDS; i++) {
                    words[frame * WORDS + i] = slotWords[slot * WORDS + i];
                }
                slotUsed[slot] = false;
            }
            claim(frame, PAGE, guest, page);
            entrySpot[frame] = spot;
            words[spot] = entry & (DENIED | DIRTY) | HERE | frame * 256;
            return words[spot];
        }

        void moveFrame(int from, int to) {
            for (int i = 0; i < WORDS; i++) {
                words[to * WORDS + i] = words[from * WORDS + i];
            }
            int spot = entrySpot[from];
            claim(to, PAGE, holder[from], firstPage[from]);
            entrySpot[to] = spot;
            words[spot] = words[spot] % 256 + to * 256;
            release(from);
        }

        /** Frees the frame or slot that an entry names. */
        void letGo(int entry) {
            if ((entry & KIND) == HERE) {
                release(frameIn(entry));
            }
            if ((entry & KIND) == SWAPPED) {
                slotUsed[slotIn(entry)] = false;
            }
        }

        int wordBehind(int entry, int i) {
            switch (entry & KIND) {
                case HERE: return words[frameIn(entry) * WORDS + i];
                case SWAPPED: return slotWords[slotIn(entry) * WORDS + i];
                default: return 0;
            }
        }

        int pagesOfKind(int root, int ram, int kind) {
            int found = 0;
            for (int page = 0; page < ram; page++) {
                found += (entryOf(root, page) & KIND) == kind ? 1 : 0;
            }
            return found;
        }

        int releaseGuest(int guest, int root, int ram) {
            int before = freeFrames();
            // Pages first: their slots are known by the tables alone.
            for (int page = 0; page < ram; page++) {
                letGo(entryOf(root, page));
            }
            for (int frame = 0; frame < FRAMES; frame++) {
                if (holder[frame] == guest) {
                    release(frame);
                }
            }
            return freeFrames() - before;
        }
    }

    /** What a guest has beside its frames. */
    private static final class Guest {
        static final int BYTES_KEPT = 200;

        final int number;
        boolean there = false;
        int ram;
        int root;
        int target;
        int demands;
        int swapins;
        int ticks;
        int alarm;
        int alarmVcpu;
        int bytesPrinted;
        final int[] bytes = new int[BYTES_KEPT];
        final Disk disk = new Disk();
        final Mails mails = new Mails();

        Guest(int number) {
            this.number = number;
        }

        void begin(int newRam, int newRoot) {
            there = true;
            ram = newRam;
            root = newRoot;
            target = 0;
            demands = 0;
            swapins = 0;
            ticks = 0;
            alarm = 0;
            alarmVcpu = 0;
            bytesPrinted = 0;
            disk.begin();
            mails.held = 0;
        }

        void print(int word) {
            if (bytesPrinted < BYTES_KEPT) {
                bytes[bytesPrinted] = word % 256;
            }
            bytesPrinted++;
        }

        int byteKept(int k) {
            return within(k, 0, Math.min(bytesPrinted, BYTES_KEPT) - 1) ? bytes[k] : NONE;
        }
    }

    /** A guest's disk: its sectors, and the words that the guest sees of it. */
    private static final class Disk {
        static final int SECTORS = 16;
        static final int LOAD = 1, STORE = 2;

        final int[] words = new int[SECTORS * WORDS];
        int sector = 0;
        int page = 0;
        int outcome = 0;

        void begin() {
            for (int i = 0; i < SECTORS * WORDS; i++) {
                words[i] = 0;
            }
            sector = 0;
            page = 0;
            outcome = 0;
        }

        int wordShown(int word) {
            switch (word) {
                case 0: return sector;
                case 1: return page;
                case 3: return outcome;
                default: return 0;
            }
        }
    }

    /** A guest's mails, the oldest first. */
    private static final class Mails {
        static final int MOST = 8;

        final int[] words = new int[MOST];
        int held = 0;

        boolean put(int word) {
            if (held >= MOST) {
                return false;
            }
            words[held] = word;
            held++;
            return true;
        }

        int take() {
            if (held == 0) {
                return 0;
            }
            int oldest = words[0];
            held--;
            for (int i = 0; i < held; i++) {
                words[i] = words[i + 1];
            }
            return oldest;
        }
    }

    /** The look-aside places of one virtual processor. */
    private static final class LookAside {
        static final int PLACES = 8;
        static final int ALL = 0, OWN = 1, FITTING = 2;
        static final int MAY_WRITE = 1, USER = 2, NO_EXECUTE = 4, DIRTY = 8, GLOBAL = 16, LARGE = 32;

        final boolean[] full = new boolean[PLACES];
        final int[] page = new int[PLACES];
        final int[] guestPage = new int[PLACES];
        final int[] bits = new int[PLACES];
        final int[] asid = new int[PLACES];
        int next = 0;

        void begin() {
            for (int i = 0; i < PLACES; i++) {
                full[i] = false;
            }
            next = 0;
        }

        boolean isLarge(int i) {
            return (bits[i] & LARGE) != 0;
        }

        boolean fits(int i, int ofAsid, int address) {
            boolean reaches = asid[i] == ofAsid || (bits[i] & GLOBAL) != 0;
            int asked = (bits[i] & LARGE) != 0 ? address / 256 : address / WORDS;
            return full[i] && reaches && page[i] == asked;
        }

        int firstFit(int ofAsid, int address) {
            for (int i = 0; i < PLACES; i++) {
                if (fits(i, ofAsid, address)) {
                    return i;
                }
            }
            return NONE;
        }

        int pageTold(int i, int address) {
            return isLarge(i) ? guestPage[i] + address / WORDS % 16 : guestPage[i];
        }

        void tell(int newPage, int newGuestPage, int newBits, int newAsid) {
            full[next] = true;
            page[next] = newPage;
            guestPage[next] = newGuestPage;
            bits[next] = newBits;
            asid[next] = newAsid;
            next = (next + 1) % PLACES;
        }

        int clear(int how, int ofAsid, int address) {
            int emptied = 0;
            for (int i = 0; i < PLACES; i++) {
                if (full[i] && isMeant(i, how, ofAsid, address)) {
                    full[i] = false;
                    emptied++;
                }
            }
            return emptied;
        }

        private boolean isMeant(int i, int how, int ofAsid, int address) {
            switch (how) {
                case ALL: return true;
                case OWN: return asid[i] == ofAsid && (bits[i] & GLOBAL) == 0;
                default: return fits(i, ofAsid, address);
            }
        }

        int told(int i, int what) {
            if (!full[i]) {
                return NONE;
            }
            switch (what) {
                case 0: return isLarge(i) ? page[i] * 16 : page[i];
                case 1: return guestPage[i];
                case 2: return bits[i];
                default: return asid[i];
            }
        }
    }

    /** A virtual processor; its registers stand in the order of set() and get(). */
    private static final class Vcpu {
        static final int A = 0, X = 1, PC = 2, MODE = 3, BITS = 4, ROOT = 5, ASID = 6, HANDLER = 7;
        static final int EPC = 8, EMODE = 9, ECODE = 10, EVA = 11, STATE = 12, EVENTS = 13, HANDLES = 14;
        static final int STEPS = 15, GUEST = 16, FAULT_CODE = 17, FAULT_ADDRESS = 18, REGISTERS = 19;
        static final int RUNS = 0, HALTED = 1, STOPPED = 2;
        static final int PAGING = 1, WRITE_PROTECT = 2;
        static final int MOST_EVENTS = 255;
        static final int EXIT_FIELDS = 5;

        final int number;
        boolean there = false;
        final int[] reg = new int[REGISTERS];
        final int[] lastExit = new int[EXIT_FIELDS];
        final LookAside aside = new LookAside();

        Vcpu(int number) {
            this.number = number;
        }

        void begin(int guest) {
            there = true;
            for (int i = 0; i < REGISTERS; i++) {
                reg[i] = 0;
            }
            reg[HANDLER] = NONE;
            reg[GUEST] = guest;
            noteExit(0, 0, 0, 0, 0);
            aside.begin();
        }

        boolean isOf(int guest) {
            return there && reg[GUEST] == guest;
        }

        boolean inUserMode() {
            return reg[MODE] == 1;
        }

        boolean hasBit(int bit) {
            return (reg[BITS] & bit) != 0;
        }

        void addEvent() {
            reg[EVENTS] = Math.min(reg[EVENTS] + 1, MOST_EVENTS);
        }

        int noteExit(int reason, int guestAddress, int address, int kind, int inWalk) {
            lastExit[0] = reason;
            lastExit[1] = guestAddress;
            lastExit[2] = address;
            lastExit[3] = kind;
            lastExit[4] = inWalk;
            return EXIT;
        }

        int noteFault(int code, int address) {
            reg[FAULT_CODE] = code;
            reg[FAULT_ADDRESS] = address;
            return FAULT;
        }
    }

    /** The second stage: from a guest's pages to frames. */
    private static final class Pager {
        static final int WITHOUT_ROOM = 65534;

        final Memory memory;

        Pager(Memory memory) {
            this.memory = memory;
        }

        static int wantOf(int kind) {
            return 1 << kind;
        }

        static int marksOf(int kind) {
            return kind == WRITE ? Memory.ACCESSED | Memory.DIRTY : Memory.ACCESSED;
        }

        /** The frame of a page that gets these marks, or a reason of an exit, negated; want 0 is never denied. */
        int reach(Guest g, int page, int want, int marks) {
            if (page >= g.ram) {
                return isDevice(page) ? -DEVICE : -NOTHING;
            }
            int spot = memory.spotOf(g.root, page);
            int entry = spot < 0 ? 0 : memory.words[spot];
            if ((entry & want) != 0) {
                return -REFUSED;
            }
            int kind = entry & Memory.KIND;
            if (kind == Memory.GIVEN) {
                return -AWAY;
            }
            if (kind != Memory.HERE) {
                if (spot < 0) {
                    spot = memory.linkTable(g.root, g.number, page, memory.newFrame());
                }
                int frame = spot < 0 ? NONE : memory.newFrame();
                if (frame < 0) {
                    return -NOROOM;
                }
                entry = memory.settle(frame, g.number, page, spot);
                g.demands += kind == Memory.FRESH ? 1 : 0;
                g.swapins += kind == Memory.SWAPPED ? 1 : 0;
            }
            memory.words[spot] = entry | marks;
            return Memory.frameIn(entry);
        }

        /** A page goes to the host: what the guest's call answers. */
        int give(Guest g, int page) {
            int entry = page < g.ram ? memory.entryOf(g.root, page) : Memory.GIVEN;
            if ((entry & Memory.KIND) == Memory.GIVEN) {
                return WORD;
            }
            int spot = memory.spotOf(g.root, page);
            if (spot < 0) {
                spot = memory.linkTable(g.root, g.number, page, memory.newFrame());
            }
            if (spot < 0) {
                return WITHOUT_ROOM;
            }
            memory.letGo(entry);
            memory.words[spot] = entry & Memory.DENIED | Memory.GIVEN;
            return 0;
        }

        int takeBack(Guest g, int page) {
            int spot = page < g.ram ? memory.spotOf(g.root, page) : NONE;
            if (spot < 0 || (memory.words[spot] & Memory.KIND) != Memory.GIVEN) {
                return WORD;
            }
            memory.words[spot] &= Memory.DENIED;
            return 0;
        }
    }

    /** The devices, and who is there to be told by them. */
    private static final class Devices {
        final Pager pager;
        final Guest[] guests;
        final Vcpu[] vcpus;

        Devices(Pager pager, Guest[] guests, Vcpu[] vcpus) {
            this.pager = pager;
            this.guests = guests;
            this.vcpus = vcpus;
        }

        Guest guestOf(Vcpu c) {
            return guests[c.reg[Vcpu.GUEST]];
        }

        int guestsThere() {
            int found = 0;
            for (int g = 0; g < GUESTS; g++) {
                found += guests[g].there ? 1 : 0;
            }
            return found;
        }

        int vcpusThere() {
            int found = 0;
            for (int i = 0; i < VCPUS; i++) {
                found += vcpus[i].there ? 1 : 0;
            }
            return found;
        }

        int vcpusOf(int guest) {
            int found = 0;
            for (int i = 0; i < VCPUS; i++) {
                found += vcpus[i].isOf(guest) ? 1 : 0;
            }
            return found;
        }

        void tick(Guest g) {
            g.ticks++;
            if (g.alarm > 0) {
                g.alarm--;
                if (g.alarm == 0 && vcpus[g.alarmVcpu].isOf(g.number)) {
                    vcpus[g.alarmVcpu].addEvent();
                }
            }
        }

        int readWord(Guest g, int page, int word) {
            switch (page) {
                case CONSOLE: return word == 0 ? Math.min(g.bytesPrinted, WORD) : 0;
                case CLOCK: return word == 0 ? g.ticks % (WORD + 1) : word == 1 ? g.alarm : 0;
                case DISK: return g.disk.wordShown(word);
                default: return word == 4 ? g.mails.take() : word == 5 ? g.mails.held : 0;
            }
        }

        void writeWord(Vcpu c, int page, int word, int value) {
            Guest g = guestOf(c);
            if (page == CONSOLE && word == 0) {
                g.print(value);
            } else if (page == CLOCK && word == 1) {
                g.alarm = value;
                g.alarmVcpu = c.number;
            } else if (page == DISK) {
                writeDisk(g, word, value);
            } else if (page == POST && word < GUESTS) {
                post(word, value);
            }
        }

        private void post(int guest, int value) {
            if (guests[guest].there && guests[guest].mails.put(value)) {
                for (int i = 0; i < VCPUS; i++) {
                    if (vcpus[i].isOf(guest)) {
                        vcpus[i].addEvent();
                    }
                }
            }
        }

        private void writeDisk(Guest g, int word, int value) {
            Disk disk = g.disk;
            if (word == 0) {
                disk.sector = value % Disk.SECTORS;
            } else if (word == 1) {
                disk.page = value % PAGES;
            } else if (word == 2 && within(value, Disk.LOAD, Disk.STORE)) {
                int kind = value == Disk.LOAD ? WRITE : READ;
                int frame = pager.reach(g, disk.page, Pager.wantOf(kind), Pager.marksOf(kind));
                disk.outcome = frame < 0 ? -frame : 0;
                if (frame >= 0) {
                    transfer(disk, value, frame);
                }
            }
        }

        private void transfer(Disk disk, int command, int frame) {
            int[] words = pager.memory.words;
            for (int i = 0; i < WORDS; i++) {
                if (command == Disk.LOAD) {
                    words[frame * WORDS + i] = disk.words[disk.sector * WORDS + i];
                } else {
                    disk.words[disk.sector * WORDS + i] = words[frame * WORDS + i];
                }
            }
        }
    }

    /** The first stage: accesses of virtual processors, by look-aside places and walks. */
    private static final class Translator {
        static final int PRESENT = 1, MAY_WRITE = 2, USER = 4, NO_EXECUTE = 8;
        static final int ACCESSED = 16, DIRTY = 32, LARGE = 64, GLOBAL = 128;
        static final int BY_PRESENT = 1, BY_WRITE = 2, BY_USER = 4, BY_FORM = 8, BY_FETCH = 16;

        final Pager pager;
        final Devices devices;

        Translator(Pager pager, Devices devices) {
            this.pager = pager;
            this.devices = devices;
        }

        /** The word read or fetched, 0 for a write, FAULT or EXIT. */
        int touch(Vcpu c, int kind, int address, int value) {
            int page = address / WORDS;
            if (c.hasBit(Vcpu.PAGING)) {
                page = recall(c, kind, address);
                if (page < 0) {
                    page = walk(c, kind, address);
                }
                if (page < 0) {
                    return page;
                }
            }
            int word = address % WORDS;
            Guest g = devices.guestOf(c);
            if (isDevice(page) && kind == READ) {
                return devices.readWord(g, page, word);
            }
            if (isDevice(page) && kind == WRITE) {
                devices.writeWord(c, page, word, value);
                return 0;
            }
            int frame = pager.reach(g, page, Pager.wantOf(kind), Pager.marksOf(kind));
            if (frame < 0) {
                return c.noteExit(-frame, page * WORDS + word, address, kind, 0);
            }
            if (kind == WRITE) {
                pager.memory.words[frame * WORDS + word] = value;
                return 0;
            }
            return pager.memory.words[frame * WORDS + word];
        }

        /** The guest's page by the least place that fits, or NONE: such a place is emptied if it will not do. */
        private int recall(Vcpu c, int kind, int address) {
            int i = c.aside.firstFit(c.reg[Vcpu.ASID], address);
            if (i < 0) {
                return NONE;
            }
            int bits = c.aside.bits[i];
            boolean unmarked = kind == WRITE && (bits & LookAside.DIRTY) == 0;
            if (unmarked || !lets(c, kind, bits)) {
                c.aside.full[i] = false;
                return NONE;
            }
            return c.aside.pageTold(i, address);
        }

        /** The guest's page by its page tables, FAULT or EXIT. */
        private int walk(Vcpu c, int kind, int address) {
            int firstAt = c.reg[Vcpu.ROOT] * WORDS + address / 256;
            int first = loadEntry(c, kind, address, firstAt);
            if (first < 0) {
                return first;
            }
            if ((first & PRESENT) == 0) {
                return fault(c, kind, address, 0);
            }
            boolean large = (first & LARGE) != 0;
            if (large && first / 256 % 16 != 0) {
                return fault(c, kind, address, BY_PRESENT | BY_FORM);
            }
            int leafAt = large ? firstAt : first / 256 * WORDS + address / WORDS % 16;
            int leaf = large ? first : loadEntry(c, kind, address, leafAt);
            if (leaf < 0) {
                return leaf;
            }
            if ((leaf & PRESENT) == 0) {
                return fault(c, kind, address, 0);
            }
            int bits = rightsOf(first, leaf);
            if (!lets(c, kind, bits)) {
                return fault(c, kind, address, BY_PRESENT);
            }
            int marks = kind == WRITE ? ACCESSED | DIRTY : ACCESSED;
            if (!large && !markEntry(c, kind, address, firstAt, first, ACCESSED)) {
                return EXIT;
            }
            if (!markEntry(c, kind, address, leafAt, leaf, marks)) {
                return EXIT;
            }
            bits |= natureOf(leaf | marks, large);
            int leafPage = leaf / 256;
            c.aside.tell(large ? address / 256 : address / WORDS, leafPage, bits, c.reg[Vcpu.ASID]);
            return large ? leafPage + address / WORDS % 16 : leafPage;
        }

        private int loadEntry(Vcpu c, int kind, int address, int at) {
            int frame = pager.reach(devices.guestOf(c), at / WORDS, Pager.wantOf(READ), Pager.marksOf(READ));
            if (frame < 0) {
                return c.noteExit(-frame, at, address, kind, 1);
            }
            return pager.memory.words[frame * WORDS + at % WORDS];
        }

        // The page is reached anew: reaching another one may have swapped it out meanwhile.
        private boolean markEntry(Vcpu c, int kind, int address, int at, int entry, int marks) {
            if ((entry & marks) == marks) {
                return true;
            }
            int frame = pager.reach(devices.guestOf(c), at / WORDS, Pager.wantOf(WRITE), Pager.marksOf(WRITE));
            if (frame < 0) {
                c.noteExit(-frame, at, address, kind, 1);
                return false;
            }
            pager.memory.words[frame * WORDS + at % WORDS] |= marks;
            return true;
        }

        private static int rightsOf(int first, int leaf) {
            int both = first & leaf;
            int either = first | leaf;
            return ((both & MAY_WRITE) != 0 ? LookAside.MAY_WRITE : 0)
                | ((both & USER) != 0 ? LookAside.USER : 0)
                | ((either & NO_EXECUTE) != 0 ? LookAside.NO_EXECUTE : 0);
        }

        private static int natureOf(int leaf, boolean large) {
            return ((leaf & DIRTY) != 0 ? LookAside.DIRTY : 0)
                | ((leaf & GLOBAL) != 0 ? LookAside.GLOBAL : 0)
                | (large ? LookAside.LARGE : 0);
        }

        private static boolean lets(Vcpu c, int kind, int bits) {
            if (c.inUserMode() && (bits & LookAside.USER) == 0) {
                return false;
            }
            if (kind == WRITE) {
                boolean free = !c.inUserMode() && !c.hasBit(Vcpu.WRITE_PROTECT);
                return free || (bits & LookAside.MAY_WRITE) != 0;
            }
            return kind == READ || (bits & LookAside.NO_EXECUTE) == 0;
        }

        private static int fault(Vcpu c, int kind, int address, int cause) {
            int code = cause
                | (kind == WRITE ? BY_WRITE : 0)
                | (c.inUserMode() ? BY_USER : 0)
                | (kind == FETCH ? BY_FETCH : 0);
            return c.noteFault(code, address);
        }
    }

    /** The steps of programs. */
    private static final class Processor {
        static final int BY_PROGRAM = 64, BY_INSTRUCTION = 32;
        static final int NO_ACCESS = -1;

        final Pager pager;
        final Devices devices;
        final Translator translator;

        Processor(Pager pager, Devices devices, Translator translator) {
            this.pager = pager;
            this.devices = devices;
            this.translator = translator;
        }

        /** Tries a step: whether it counts. */
        boolean step(Vcpu c) {
            devices.tick(devices.guestOf(c));
            int pc = c.reg[Vcpu.PC];
            int word = translator.touch(c, FETCH, pc, 0);
            if (word < 0) {
                return isHandled(c, word);
            }
            int op = word / ADDRESSES;
            int t = word % ADDRESSES;
            int code = ownFault(op, t, c.inUserMode());
            if (code != 0) {
                return isHandled(c, c.noteFault(code, code == BY_PROGRAM ? t : pc));
            }
            int kind = accessOf(op);
            int got = 0;
            if (kind != NO_ACCESS) {
                int at = op >= 11 ? (t + c.reg[Vcpu.X]) % ADDRESSES : t;
                got = translator.touch(c, kind, at, c.reg[Vcpu.A]);
            }
            if (got < 0) {
                return isHandled(c, got);
            }
            c.reg[Vcpu.PC] = (pc + 1) % ADDRESSES;
            execute(c, op, t, got);
            return true;
        }

        /** The code of a fault that an instruction is by itself, or 0. */
        private static int ownFault(int op, int t, boolean user) {
            switch (op) {
                case 0: return t > 16 || user && t != 14 && t != 15 ? BY_INSTRUCTION : 0;
                case 13: return BY_PROGRAM;
                case 14: return user ? BY_INSTRUCTION : 0;
                case 15: return BY_INSTRUCTION;
                default: return 0;
            }
        }

        private static int accessOf(int op) {
            switch (op) {
                case 1: case 3: case 4: case 5: case 10: case 11: return READ;
                case 2: case 12: return WRITE;
                default: return NO_ACCESS;
            }
        }

        /** What becomes of a step that was refused: whether its handler gets it. */
        private boolean isHandled(Vcpu c, int refusal) {
            int[] reg = c.reg;
            if (refusal == EXIT) {
                reg[Vcpu.STATE] = Vcpu.STOPPED;
                return false;
            }
            if (reg[Vcpu.HANDLER] < 0 || reg[Vcpu.HANDLES] == 1) {
                c.noteExit(FAULTED, 0, reg[Vcpu.FAULT_ADDRESS], 0, 0);
                reg[Vcpu.STATE] = Vcpu.STOPPED;
                return false;
            }
            int behind = reg[Vcpu.FAULT_CODE] == BY_PROGRAM ? 1 : 0;
            reg[Vcpu.EPC] = (reg[Vcpu.PC] + behind) % ADDRESSES;
            reg[Vcpu.EMODE] = reg[Vcpu.MODE];
            reg[Vcpu.ECODE] = reg[Vcpu.FAULT_CODE];
            reg[Vcpu.EVA] = reg[Vcpu.FAULT_ADDRESS];
            reg[Vcpu.MODE] = 0;
            reg[Vcpu.PC] = reg[Vcpu.HANDLER];
            reg[Vcpu.HANDLES] = 1;
            return true;
        }

        private void execute(Vcpu c, int op, int t, int got) {
            int[] reg = c.reg;
            int a = reg[Vcpu.A];
            switch (op) {
                case 0: control(c, t); break;
                case 1: case 11: reg[Vcpu.A] = got; break;
                case 3: reg[Vcpu.A] = (a + got) & WORD; break;
                case 4: reg[Vcpu.A] = (a - got) & WORD; break;
                case 5: reg[Vcpu.A] = a & got; break;
                case 6: reg[Vcpu.PC] = t; break;
                case 7: reg[Vcpu.PC] = a == 0 ? t : reg[Vcpu.PC]; break;
                case 8: reg[Vcpu.PC] = a != 0 ? t : reg[Vcpu.PC]; break;
                case 9: reg[Vcpu.A] = (t >= 2048 ? t - ADDRESSES : t) & WORD; break;
                case 10: reg[Vcpu.X] = got; break;
                case 14: reg[Vcpu.A] = callHost(c, t); break;
                default: break;
            }
        }

        private void control(Vcpu c, int t) {
            int[] reg = c.reg;
            int a = reg[Vcpu.A];
            switch (t) {
                case 0: reg[Vcpu.STATE] = Vcpu.HALTED; break;
                case 1: goBack(reg); break;
                case 2: c.aside.clear(LookAside.ALL, reg[Vcpu.ASID], 0); break;
                case 3: c.aside.clear(LookAside.OWN, reg[Vcpu.ASID], 0); break;
                case 4: c.aside.clear(LookAside.FITTING, reg[Vcpu.ASID], a); break;
                case 5:
                    reg[Vcpu.ROOT] = a % PAGES;
                    c.aside.clear(LookAside.OWN, reg[Vcpu.ASID], 0);
                    break;
                case 6: reg[Vcpu.ROOT] = a % PAGES; break;
                case 7: reg[Vcpu.ASID] = a % 4; break;
                case 8: reg[Vcpu.BITS] = a % 4; break;
                case 9: reg[Vcpu.HANDLER] = a % ADDRESSES; break;
                case 10: reg[Vcpu.EPC] = a % ADDRESSES; break;
                case 11: reg[Vcpu.A] = reg[Vcpu.EPC]; break;
                case 12: reg[Vcpu.A] = reg[Vcpu.ECODE]; break;
                case 13: reg[Vcpu.A] = reg[Vcpu.EVA]; break;
                case 14: reg[Vcpu.X] = a; break;
                case 15: reg[Vcpu.A] = reg[Vcpu.X]; break;
                default: reg[Vcpu.EMODE] = a % 2; break;
            }
        }

        private static void goBack(int[] reg) {
            reg[Vcpu.PC] = reg[Vcpu.EPC];
            reg[Vcpu.MODE] = reg[Vcpu.EMODE];
            reg[Vcpu.HANDLES] = 0;
        }

        /** What A is behind a call of the host. */
        private int callHost(Vcpu c, int t) {
            Guest g = devices.guestOf(c);
            int a = c.reg[Vcpu.A];
            switch (t) {
                case 1: return pager.give(g, a % PAGES);
                case 2: return pager.takeBack(g, a % PAGES);
                case 3: return g.target;
                case 4: return clearAll(g.number);
                case 5: return sendEvent(g.number, a);
                case 6: return takeEvents(c);
                default: return WORD;
            }
        }

        private int clearAll(int guest) {
            for (int i = 0; i < VCPUS; i++) {
                if (devices.vcpus[i].isOf(guest)) {
                    devices.vcpus[i].aside.clear(LookAside.ALL, 0, 0);
                }
            }
            return devices.vcpusOf(guest);
        }

        private int sendEvent(int guest, int to) {
            if (to >= VCPUS || !devices.vcpus[to].isOf(guest)) {
                return WORD;
            }
            devices.vcpus[to].addEvent();
            return 0;
        }

        private static int takeEvents(Vcpu c) {
            int had = c.reg[Vcpu.EVENTS];
            c.reg[Vcpu.EVENTS] = 0;
            return had;
        }
    }
}
