import java.util.List;

/** Promises 1 to 25, one by one: the edges of each, what it answers there, what it throws, and what then stays. */
final class PromiseTest {
    private static final int NONE = NestedPager.NONE, F = NestedPager.FAULT, E = NestedPager.EXIT;
    private static final int ROOM = NestedPager.ROOM;
    private static final int ALL = Rig.P | Rig.W | Rig.U;
    private static final int LEAST = Integer.MIN_VALUE, GREATEST = Integer.MAX_VALUE;

    private PromiseTest() {
    }

    public static void main(String[] args) {
        newObject();
        guestNumbers();
        guestBeginsAnew();
        guestWithoutRoom();
        destroyTakesAll();
        destroyCountsFrames();
        vcpuNumbers();
        vcpuWithoutRoom();
        setLimits();
        setFlushesNothing();
        getLimits();
        getLastFault();
        accessAnswers();
        accessLimits();
        accessAsksNoHandler();
        runLimits();
        runOfHalted();
        runOfStopped();
        runEnds();
        exitOfNone();
        flushCounts();
        asideOfEmpty();
        denyAnswers();
        denyRefused();
        denyWithoutRoom();
        swapAnswers();
        swapRefused();
        swapWithoutRoom();
        moveAnswers();
        moveRefused();
        moveWithoutRoom();
        targetAnswers();
        harvestAnswers();
        harvestOfAll();
        dirtyAnswers();
        entryAnswers();
        pokeLimits();
        pokeRefused();
        pokeReasons();
        pokeIsNoAccess();
        peekAnswers();
        frameLimits();
        ownerAnswers();
        countAnswers();
        countOfReclaimed();
        printedAnswers();
        hostAnswers();
        statesThatAreNot();
        argumentsGoFirst();
        Check.end();
    }

    /** A call that throws IllegalArgument, and leaves all as it was. */
    private static void refusedArgument(String what, NestedPager host, Runnable call) {
        List<Integer> before = Snapshot.of(host);
        Check.badArgument(what, call);
        Check.holds(what + " changes nothing", before.equals(Snapshot.of(host)));
    }

    /** A call that throws IllegalState, and leaves all as it was. */
    private static void refusedState(String what, NestedPager host, Runnable call) {
        List<Integer> before = Snapshot.of(host);
        Check.badState(what, call);
        Check.holds(what + " changes nothing", before.equals(Snapshot.of(host)));
    }

    private static void newObject() {
        Check.sentence("All frames FREE, no guests.");
        NestedPager host = new NestedPager();
        int[] want = {128, 64, 0, 0, 0};
        for (int what = 0; what < 5; what++) {
            Check.due("host(" + what + ")", host.host(what), want[what]);
        }
        for (int frame = 0; frame < 128; frame++) {
            Hosts.dueFree(host, frame);
        }
        for (int guest = 0; guest < 4; guest++) {
            int g = guest;
            Check.badState("no guest " + g, () -> host.count(g, 0));
        }
        for (int vcpu = 0; vcpu < 8; vcpu++) {
            int c = vcpu;
            Check.badState("no VCPU " + c, () -> host.get(c, 0));
        }
        Check.due("no harvest", host.dirty(0), NONE);
        new NestedPager().guest(1);
        Check.due("each object is its own", host.host(3), 0);
    }

    private static void guestNumbers() {
        Check.sentence("A guest with RAM 1 .. 128: its number, the least that is free;");
        NestedPager host = new NestedPager();
        for (int ram : new int[] {LEAST, -1, 0, 129, GREATEST}) {
            refusedArgument("guest(" + ram + ")", host, () -> host.guest(ram));
        }
        Check.due("guest(1)", host.guest(1), 0);
        Check.due("guest(128)", host.guest(128), 1);
        Check.due("RAM", host.count(0, 0), 1);
        Check.due("RAM", host.count(1, 0), 128);
        Check.due("TARGET", host.count(1, 1), 0);
        Check.due("guest", host.guest(2), 2);
        Check.due("guest", host.guest(3), 3);
        for (int gone : new int[] {3, 0, 2, 1}) {
            host.target(gone, 5);
            host.destroy(gone);
            Check.due("the one that went", host.guest(64), gone);
            Check.due("its RAM", host.count(gone, 0), 64);
            Check.due("its TARGET is 0", host.count(gone, 1), 0);
        }
        host.destroy(3);
        host.destroy(1);
        Check.due("the least of two", host.guest(7), 1);
        Check.due("then the other", host.guest(8), 3);
    }

    /** A guest that has a number again has nothing of the one that had it before. */
    private static void guestBeginsAnew() {
        Check.sentence("Its TARGET is 0.");
        Rig rig = Hosts.withoutFrames();
        NestedPager host = rig.host;
        rig.dueAccess("page 0 is RECLAIMED", Rig.READ, 119 * 16, 0, 0);
        rig.dueAccess("page 0 is SWAPPED in", Rig.READ, 0, 0, 1000);
        rig.dueAccess("print", Rig.WRITE, Rig.CONSOLE, 65, 0);
        rig.dueAccess("mail", Rig.WRITE, Rig.POST, 66, 0);
        rig.dueAccess("a sector", Rig.WRITE, Rig.DISK + 1, 64, 0);
        rig.dueAccess("a sector", Rig.WRITE, Rig.DISK + 2, 2, 0);
        rig.dueAccess("an ALARM", Rig.WRITE, Rig.CLOCK + 1, 2, 0);
        Hosts.give(rig, 50);
        rig.dueAccess("an ALARM", Rig.WRITE, Rig.CLOCK + 1, 2, 0);
        host.target(0, 77);
        for (int what = 0; what < 12; what++) {
            Check.holds("count(" + what + ") is not 0", host.count(0, what) > 0);
        }
        host.destroy(0);
        Check.due("its number again", host.guest(30), 0);
        for (int what = 1; what < 12; what++) {
            Check.due("count(" + what + ")", host.count(0, what), 0);
        }
        for (int page = 0; page < 128; page++) {
            Check.due("entry(" + page + ")", host.entry(0, page), 0);
        }
        Check.due("its VCPU again", host.vcpu(0), 0);
        rig.dueAccess("no ALARM", Rig.READ, Rig.CLOCK + 1, 0, 0);
        rig.dueAccess("no ALARM", Rig.READ, Rig.CLOCK + 1, 0, 0);
        rig.dueReg("no EVENT", Rig.EVENTS, 0);
        rig.dueAccess("an empty sector", Rig.WRITE, Rig.DISK + 2, 1, 0);
        rig.dueAccess("its first word", Rig.READ, 0, 0, 0);
    }

    private static void guestWithoutRoom() {
        Check.sentence("ROOM: there are four, or no FREE frame for its ROOT TABLE (none is RECLAIMED for that).");
        NestedPager four = new NestedPager();
        for (int guest = 0; guest < 4; guest++) {
            four.guest(1);
        }
        List<Integer> before = Snapshot.of(four);
        Check.due("a fifth", four.guest(128), ROOM);
        Check.holds("nothing changes", before.equals(Snapshot.of(four)));
        refusedArgument("IllegalArgument goes first", four, () -> four.guest(0));
        NestedPager full = Hosts.withoutFrames().host;
        before = Snapshot.of(full);
        Check.due("no FREE frame, but SLOTS", full.guest(1), ROOM);
        Check.holds("none is RECLAIMED", before.equals(Snapshot.of(full)));
        full.swap(0, 118);
        Check.due("one FREE frame", full.guest(1), 1);
        Hosts.dueOwner(full, 127, 1, 1, 256);
        Check.due("it was the last", full.guest(1), ROOM);
    }

    private static void destroyTakesAll() {
        Check.sentence("A guest goes, with its VCPUS, frames, SLOTS, DISK, MAILS, what it printed:");
        NestedPager host = new NestedPager();
        for (int guest = 0; guest < 4; guest++) {
            host.guest(20);
            host.vcpu(guest);
            host.vcpu(guest);
            host.poke(guest, 0, 1, 2, 3, 4);
            host.poke(guest, 16 * 16, 1, 2, 3, 4);
            host.swap(guest, 16);
        }
        host.access(7, 1, Rig.CONSOLE, 65);
        host.access(7, 1, Rig.POST + 3, 66);
        host.access(7, 1, Rig.DISK, 2);
        host.access(7, 1, Rig.DISK + 2, 2);
        host.access(7, 1, Rig.DISK + 1, 200);
        host.access(7, 1, Rig.DISK + 2, 2);
        host.target(3, 9);
        Check.due("free SLOTS", host.host(1), 60);
        Check.due("destroy(3)", host.destroy(3), 4);
        Check.due("free SLOTS", host.host(1), 61);
        Check.due("guests", host.host(3), 3);
        Check.due("VCPUS", host.host(4), 6);
        refusedState("VCPU 6", host, () -> host.get(6, 0));
        refusedState("VCPU 7", host, () -> host.run(7, 1));
        refusedState("the guest", host, () -> host.printed(3, 0));
        Check.due("others stay", host.get(5, Rig.GUEST), 2);
        Check.due("others' SLOTS stay", host.peek(2, 16 * 16 + 3), 4);
        Check.due("guest", host.guest(20), 3);
        Check.due("vcpu", host.vcpu(3), 6);
        for (int what = 1; what < 11; what++) {
            Check.due("count(" + what + ")", host.count(3, what), 0);
        }
        Check.due("nothing printed", host.printed(3, 0), NONE);
        Check.due("no MAIL", host.access(6, 0, Rig.POST + 4, 0), 0);
        for (int word = 0; word < 4; word++) {
            Check.due("the DISK's word " + word, host.access(6, 0, Rig.DISK + word, 0), 0);
        }
        host.poke(3, 0, 5, 5, 5, 5);
        host.access(6, 1, Rig.DISK, 2);
        host.access(6, 1, Rig.DISK + 2, 1);
        Check.due("the DISK's sectors", host.peek(3, 3), 0);
    }

    private static void destroyCountsFrames() {
        Check.sentence("how many frames came free. IllegalArgument, IllegalState.");
        NestedPager host = new NestedPager();
        for (int bad : new int[] {LEAST, -1, 4, GREATEST}) {
            refusedArgument("destroy(" + bad + ")", host, () -> host.destroy(bad));
        }
        for (int guest = 0; guest < 4; guest++) {
            int g = guest;
            refusedState("destroy(" + g + ")", host, () -> host.destroy(g));
        }
        host.guest(1);
        Check.due("the ROOT TABLE alone", host.destroy(0), 1);
        refusedState("destroy again", host, () -> host.destroy(0));
        NestedPager full = Hosts.withoutFrames().host;
        Check.due("all of them", full.destroy(0), 128);
        for (int frame = 0; frame < 128; frame++) {
            Hosts.dueFree(full, frame);
        }
        NestedPager swapped = Hosts.withSlots(0);
        Check.due("SLOTS are no frames", swapped.destroy(0), 9 + 64);
        Check.due("but come free", swapped.host(1), 64);
    }

    private static void vcpuNumbers() {
        Check.sentence("A VCPU of a guest: its number, the least that is free;");
        NestedPager host = new NestedPager();
        for (int bad : new int[] {LEAST, -1, 4, GREATEST}) {
            refusedArgument("vcpu(" + bad + ")", host, () -> host.vcpu(bad));
        }
        refusedState("vcpu(3)", host, () -> host.vcpu(3));
        for (int guest = 0; guest < 4; guest++) {
            host.guest(1);
        }
        for (int i = 0; i < 8; i++) {
            Check.due("vcpu", host.vcpu(3 - i % 4), i);
        }
        host.destroy(2);
        Check.due("the least that is free", host.vcpu(0), 1);
        Check.due("the next", host.vcpu(0), 5);
        Check.due("of guest 0", host.count(0, 11), 4);
        refusedState("guest 2 went", host, () -> host.vcpu(2));
    }

    private static void vcpuWithoutRoom() {
        Check.sentence("ROOM: there are eight.");
        NestedPager host = new NestedPager();
        host.guest(1);
        host.guest(1);
        for (int i = 0; i < 7; i++) {
            host.vcpu(0);
        }
        Check.due("the eighth", host.vcpu(1), 7);
        List<Integer> before = Snapshot.of(host);
        Check.due("a ninth", host.vcpu(0), ROOM);
        Check.due("a ninth of a guest with one", host.vcpu(1), ROOM);
        Check.holds("nothing changes", before.equals(Snapshot.of(host)));
        refusedState("no such guest, though there are eight", host, () -> host.vcpu(2));
        refusedArgument("no guest, though there are eight", host, () -> host.vcpu(4));
    }

    private static void setLimits() {
        Check.sentence("IllegalArgument: also if v is none of its values.");
        Rig rig = new Rig(1);
        int[] highest = {65535, 65535, 4095, 1, 3, 255, 3, 4095, 4095, 1};
        for (int i = 0; i < 10; i++) {
            int what = i;
            int lowest = what == Rig.HANDLER ? NONE : 0;
            for (int v : new int[] {LEAST, lowest - 1, highest[what] + 1, GREATEST}) {
                refusedArgument("set(0, " + what + ", " + v + ")", rig.host, () -> rig.set(what, v));
                Check.badArgument("also of no VCPU", () -> rig.host.set(7, what, v));
            }
            for (int v : new int[] {highest[what], lowest}) {
                rig.set(what, v);
                rig.dueReg("set", what, v);
                refusedState("no VCPU", rig.host, () -> rig.host.set(1, what, v));
            }
        }
        for (int what : new int[] {LEAST, -1, 10, 18, GREATEST}) {
            refusedArgument("set(0, " + what + ", 0)", rig.host, () -> rig.set(what, 0));
        }
        for (int vcpu : new int[] {LEAST, -1, 8, GREATEST}) {
            refusedArgument("set(" + vcpu + ", 0, 0)", rig.host, () -> rig.host.set(vcpu, 0, 0));
        }
    }

    private static void setFlushesNothing() {
        Check.sentence("(Nothing is flushed.)");
        Rig rig = new Rig(16);
        rig.write(16, Rig.to(2, ALL));
        rig.write(32, Rig.to(3, ALL));
        rig.set(Rig.ROOT, 1);
        rig.set(Rig.BITS, 1);
        rig.dueAccess("a place", Rig.READ, 0, 0, 0);
        int[] other = {9, 9, 9, 1, 2, 9, 1, 9, 9, 1};
        for (int what = 0; what < 10; what++) {
            rig.set(what, other[what]);
            rig.duePlace("behind set(" + what + ")", 0, 0, 3, 3, 0);
        }
    }

    private static void getLimits() {
        Check.sentence("10 ECODE, 11 EVA, 12 its state: 0 runs, 1 HALTED, 2 STOPPED; 13 EVENTS, 14 whether it HANDLES "
            + "(1), 15 how many steps it did, 16 its guest;");
        NestedPager host = new NestedPager();
        for (int guest = 0; guest < 4; guest++) {
            host.guest(1);
        }
        host.vcpu(3);
        for (int what = 0; what < 19; what++) {
            Check.due("get(" + what + ")", host.get(0, what), what == 7 ? NONE : what == 16 ? 3 : 0);
            int w = what;
            refusedState("no VCPU 1", host, () -> host.get(1, w));
        }
        for (int what : new int[] {LEAST, -1, 19, GREATEST}) {
            refusedArgument("get(0, " + what + ")", host, () -> host.get(0, what));
            Check.badArgument("also of no VCPU", () -> host.get(7, what));
        }
        for (int vcpu : new int[] {LEAST, -1, 8, GREATEST}) {
            refusedArgument("get(" + vcpu + ", 0)", host, () -> host.get(vcpu, 0));
        }
    }

    private static void getLastFault() {
        Check.sentence("17 the CODE, 18 the address of its last FAULT, also by access() (0 if it had none).");
        Rig rig = new Rig(16);
        rig.dueFault("none", 0, 0);
        rig.write(0, Rig.trap(77));
        rig.dueRun("by a program", 1, 0);
        rig.dueFault("by a program", 64, 77);
        rig.set(Rig.BITS, 1);
        rig.set(Rig.ROOT, 1);
        rig.set(Rig.MODE, 1);
        rig.dueAccess("by access()", Rig.FETCH, 4095, 0, F);
        rig.dueFault("by access()", 20, 4095);
        rig.set(Rig.MODE, 0);
        rig.dueAccess("one with CODE 0", Rig.READ, 0, 0, F);
        rig.dueFault("one with CODE 0", 0, 0);
    }

    private static void accessAnswers() {
        Check.sentence("the word read or fetched, or (kind 1, v being written) 0; FAULT (no HANDLER is asked), EXIT (it "
            + "is not STOPPED).");
        Rig rig = new Rig(16);
        rig.dueAccess("WRITE", Rig.WRITE, 255, 65535, 0);
        rig.dueAccess("READ", Rig.READ, 255, 7, 65535);
        rig.dueAccess("FETCH", Rig.FETCH, 255, 8, 65535);
        Check.due("v is not written by these", rig.host.peek(0, 255), 65535);
        rig.dueAccess("WRITE to a device", Rig.WRITE, Rig.CONSOLE, 65535, 0);
        rig.dueAccess("READ from it", Rig.READ, Rig.CONSOLE, 0, 1);
        rig.dueAccess("an EXIT", Rig.READ, 256, 0, E);
        rig.dueReg("it is not STOPPED", Rig.STATE, Rig.RUNS);
        rig.dueExit("but told", Rig.NOTHING, 256, 256, 0, 0);
        rig.set(Rig.BITS, 1);
        rig.dueAccess("a FAULT", Rig.WRITE, 256, 0, F);
        rig.dueReg("nor by a FAULT", Rig.STATE, Rig.RUNS);
        rig.dueReg("it is no step", Rig.STEPS, 0);
        rig.dueReg("PC stays", Rig.PC, 0);
    }

    private static void accessLimits() {
        Check.sentence("An ACCESS of a VCPU, with its MODE, of a kind (0 .. 2) at an address (v being a word with each "
            + "kind):");
        Rig rig = new Rig(16);
        NestedPager host = rig.host;
        for (int bad : new int[] {LEAST, -1, GREATEST}) {
            refusedArgument("VCPU " + bad, host, () -> host.access(bad, 0, 0, 0));
            refusedArgument("kind " + bad, host, () -> host.access(0, bad, 0, 0));
            refusedArgument("address " + bad, host, () -> host.access(0, 0, bad, 0));
            for (int kind = 0; kind < 3; kind++) {
                int k = kind;
                refusedArgument("v " + bad, host, () -> host.access(0, k, 0, bad));
                refusedArgument("v 65536", host, () -> host.access(0, k, 0, 65536));
            }
        }
        refusedArgument("VCPU 8", host, () -> host.access(8, 0, 0, 0));
        refusedArgument("kind 3", host, () -> host.access(0, 3, 0, 0));
        refusedArgument("address 4096", host, () -> host.access(0, 0, 4096, 0));
        for (int vcpu = 1; vcpu < 8; vcpu++) {
            int c = vcpu;
            refusedState("VCPU " + c, host, () -> host.access(c, 0, 0, 0));
            Check.badArgument("IllegalArgument goes first", () -> host.access(c, 3, 0, 0));
        }
    }

    private static void accessAsksNoHandler() {
        Check.sentence("FAULT (no HANDLER is asked),");
        Rig rig = new Rig(16);
        rig.set(Rig.BITS, 1);
        rig.set(Rig.MODE, 1);
        rig.set(Rig.PC, 9);
        rig.set(Rig.HANDLER, 100);
        rig.dueAccess("a FAULT", Rig.READ, 50, 0, F);
        int[] what = {Rig.PC, Rig.MODE, Rig.EPC, Rig.EMODE, Rig.ECODE, Rig.EVA, Rig.HANDLES, Rig.STEPS};
        int[] want = {9, 1, 0, 0, 0, 0, 0, 0};
        for (int i = 0; i < what.length; i++) {
            rig.dueReg("a FAULT", what[i], want[i]);
        }
        rig.dueFault("but the last", 4, 50);
    }

    private static void runLimits() {
        Check.sentence("A VCPU does up to n steps, 1 .. 1000: how many.");
        Rig rig = new Rig(1);
        NestedPager host = rig.host;
        rig.write(0, Rig.jump(0));
        for (int n : new int[] {LEAST, -1, 0, 1001, GREATEST}) {
            refusedArgument("run(0, " + n + ")", host, () -> host.run(0, n));
            Check.badArgument("also of no VCPU", () -> host.run(7, n));
        }
        for (int vcpu : new int[] {LEAST, -1, 8, GREATEST}) {
            refusedArgument("run(" + vcpu + ", 1)", host, () -> host.run(vcpu, 1));
        }
        refusedState("no VCPU 1", host, () -> host.run(1, 1));
        rig.dueRun("the least", 1, 1);
        rig.dueRun("the greatest", 1000, 1000);
        rig.dueReg("steps", Rig.STEPS, 1001);
        rig.dueReg("it runs", Rig.STATE, Rig.RUNS);
    }

    private static void runOfHalted() {
        Check.sentence("One that is HALTED does none without EVENTS, else it runs;");
        Rig rig = new Rig(1);
        rig.write(0, Rig.HALT, Rig.set(5), Rig.set(6), Rig.HALT);
        rig.dueRun("to HALT", 1000, 1);
        for (int i = 0; i < 2; i++) {
            rig.dueRun("none without EVENTS", 1000, 0);
            rig.dueReg("HALTED", Rig.STATE, Rig.HALTED);
        }
        rig.set(Rig.PC, 1);
        rig.dueRun("also with another PC", 1000, 0);
        rig.dueAccess("an EVENT", Rig.WRITE, Rig.POST, 1, 0);
        rig.dueReg("HALTED until it is run", Rig.STATE, Rig.HALTED);
        rig.dueRun("one step", 1, 1);
        rig.dueReg("it runs", Rig.STATE, Rig.RUNS);
        rig.dueReg("its EVENTS stay", Rig.EVENTS, 1);
        rig.dueRun("to HALT", 1000, 2);
        rig.dueReg("HALTED", Rig.STATE, Rig.HALTED);
        rig.set(Rig.PC, 500);
        rig.dueRun("an EXIT of one that was HALTED", 1000, 0);
        rig.dueReg("STOPPED", Rig.STATE, Rig.STOPPED);
    }

    private static void runOfStopped() {
        Check.sentence("one that is STOPPED runs again.");
        Rig rig = new Rig(1);
        rig.write(0, Rig.load(16), Rig.set(5), Rig.HALT);
        for (int i = 0; i < 3; i++) {
            rig.dueRun("the EXIT again", 1000, 0);
            rig.dueReg("STOPPED", Rig.STATE, Rig.STOPPED);
        }
        rig.set(Rig.PC, 1);
        rig.dueRun("elsewhere, without EVENTS", 1, 1);
        rig.dueReg("it runs", Rig.STATE, Rig.RUNS);
        rig.dueReg("steps", Rig.STEPS, 1);
    }

    private static void runEnds() {
        Check.sentence("It ends with HALT (which counts) and an EXIT (which does not).");
        Rig rig = new Rig(1);
        rig.write(0, Rig.set(1), Rig.set(2), Rig.HALT, Rig.set(3), Rig.set(4), Rig.load(999));
        rig.dueRun("to HALT", 1000, 3);
        rig.dueReg("steps", Rig.STEPS, 3);
        rig.dueReg("A", Rig.A, 2);
        rig.dueAccess("an EVENT", Rig.WRITE, Rig.POST, 1, 0);
        rig.dueRun("to the EXIT", 1000, 2);
        rig.dueReg("steps", Rig.STEPS, 5);
        rig.dueReg("A", Rig.A, 4);
        rig.dueExit("the EXIT", Rig.NOTHING, 999, 999, 0, 0);
        rig.set(Rig.PC, 1);
        rig.dueRun("n and HALT at once", 2, 2);
        rig.dueReg("HALTED", Rig.STATE, Rig.HALTED);
        rig.dueRun("n just before the EXIT", 2, 2);
        rig.dueReg("it runs", Rig.STATE, Rig.RUNS);
    }

    private static void exitOfNone() {
        Check.sentence("what = 0 its reason (0 if it had none), 1 the guest's address, 2 the address, 3 the kind, 4 "
            + "whether in a WALK (1).");
        Rig rig = new Rig(16);
        NestedPager host = rig.host;
        rig.dueExit("none", 0, 0, 0, 0, 0);
        for (int what : new int[] {LEAST, -1, 5, GREATEST}) {
            refusedArgument("exit(0, " + what + ")", host, () -> host.exit(0, what));
            Check.badArgument("also of no VCPU", () -> host.exit(7, what));
        }
        for (int vcpu : new int[] {LEAST, -1, 8, GREATEST}) {
            refusedArgument("exit(" + vcpu + ", 0)", host, () -> host.exit(vcpu, 0));
        }
        refusedState("no VCPU 1", host, () -> host.exit(1, 4));
        rig.set(Rig.BITS, 1);
        rig.set(Rig.ROOT, 255);
        rig.dueAccess("in a WALK", Rig.FETCH, 4095, 0, E);
        rig.dueExit("in a WALK", Rig.NOTHING, 4095, 4095, 2, 1);
        rig.set(Rig.BITS, 0);
        rig.dueAccess("in none", Rig.READ, 4000, 0, E);
        rig.dueExit("the last", Rig.NOTHING, 4000, 4000, 0, 0);
        rig.dueAccess("no EXIT", Rig.READ, 0, 0, 0);
        rig.dueExit("the last stays", Rig.NOTHING, 4000, 4000, 0, 0);
        int second = host.vcpu(0);
        Check.due("of another VCPU", host.exit(second, 0), 0);
    }

    private static void flushCounts() {
        Check.sentence("A FLUSH, how = 0 .. 2 (the address being one with each), of a VCPU: how many places were "
            + "emptied.");
        Rig rig = new Rig(64);
        NestedPager host = rig.host;
        for (int bad : new int[] {LEAST, -1, GREATEST}) {
            refusedArgument("VCPU " + bad, host, () -> host.flush(bad, 0, 0));
            refusedArgument("how " + bad, host, () -> host.flush(0, bad, 0));
            for (int how = 0; how < 3; how++) {
                int h = how;
                refusedArgument("address " + bad, host, () -> host.flush(0, h, bad));
                refusedArgument("address 4096", host, () -> host.flush(0, h, 4096));
            }
        }
        refusedArgument("VCPU 8", host, () -> host.flush(8, 0, 0));
        refusedArgument("how 3", host, () -> host.flush(0, 3, 0));
        refusedState("no VCPU 1", host, () -> host.flush(1, 0, 0));
        for (int how = 0; how < 3; how++) {
            Check.due("nothing to empty", host.flush(0, how, 4095), 0);
        }
        rig.write(16, Rig.to(2, ALL));
        int[] leaves = new int[16];
        for (int i = 0; i < 16; i++) {
            leaves[i] = Rig.to(i, ALL);
        }
        rig.write(32, leaves);
        rig.set(Rig.ROOT, 1);
        rig.set(Rig.BITS, 1);
        for (int how = 0; how < 2; how++) {
            for (int page = 0; page < 16; page++) {
                rig.access(Rig.READ, page * 16, 0);
            }
            Check.due("one", host.flush(0, 2, 255), 1);
            Check.due("that one went", host.flush(0, 2, 255), 0);
            Check.due("one that was overwritten", host.flush(0, 2, 0), 0);
            Check.due("the seven others", host.flush(0, how, 0), 7);
        }
    }

    private static void asideOfEmpty() {
        Check.sentence("Of LOOK-ASIDE place i, 0 .. 7: what = 0 its page (16 times it if LARGE), 1 the guest's page, 2 "
            + "bits: 1 WRITE, 2 USER, 4 NOT EXECUTE, 8 DIRTY, 16 GLOBAL, 32 LARGE, 3 its ASID; NONE if it is empty.");
        Rig rig = new Rig(64);
        NestedPager host = rig.host;
        for (int i = 0; i < 8; i++) {
            for (int what = 0; what < 4; what++) {
                Check.due("empty", host.aside(0, i, what), NONE);
            }
        }
        for (int bad : new int[] {LEAST, -1, GREATEST}) {
            refusedArgument("VCPU " + bad, host, () -> host.aside(bad, 0, 0));
            refusedArgument("place " + bad, host, () -> host.aside(0, bad, 0));
            refusedArgument("what " + bad, host, () -> host.aside(0, 0, bad));
        }
        refusedArgument("VCPU 8", host, () -> host.aside(8, 0, 0));
        refusedArgument("place 8", host, () -> host.aside(0, 8, 0));
        refusedArgument("what 4", host, () -> host.aside(0, 0, 4));
        refusedState("no VCPU 1", host, () -> host.aside(1, 7, 3));
        rig.write(28, 0, 0, 0, Rig.to(240, Rig.P | Rig.LARGE));
        rig.set(Rig.ROOT, 1);
        rig.set(Rig.BITS, 1);
        rig.dueAccess("LARGE", Rig.READ, 0xF60, 0, E);
        rig.duePlace("16 times 15, the LEAF's page", 0, 240, 240, 32, 0);
        Check.due("the next is empty", host.aside(0, 1, 0), NONE);
        host.flush(0, 0, 0);
        Check.due("empty again", host.aside(0, 0, 2), NONE);
    }

    private static void denyAnswers() {
        Check.sentence("What is DENIED of a page of a guest's memory becomes v, 0 .. 7: what it was;");
        Rig rig = new Rig(20);
        NestedPager host = rig.host;
        int was = 0;
        for (int v : new int[] {0, 7, 1, 2, 4, 0}) {
            Check.due("deny " + v, host.deny(0, 19, v), was);
            Check.due("entry", host.entry(0, 19), v);
            was = v;
        }
        Check.due("no memory is touched", host.count(0, 5), 0);
    }

    private static void denyRefused() {
        Check.sentence("IllegalArgument: also if the page is no 0 .. 127. IllegalState: also if it is not below RAM.");
        NestedPager host = new Rig(20).host;
        badPages("deny", host, 20, (g, page) -> host.deny(g, page, 7));
        for (int v : new int[] {LEAST, -1, 8, GREATEST}) {
            refusedArgument("deny " + v, host, () -> host.deny(0, 0, v));
            Check.badArgument("also behind RAM", () -> host.deny(0, 20, v));
        }
        Check.due("the last page", host.deny(0, 19, 7), 0);
    }

    private interface OfPage {
        void call(int guest, int page);
    }

    /** Guests and pages that are none, of a host where guest 0 alone is there. */
    private static void badPages(String name, NestedPager host, int ram, OfPage of) {
        for (int guest : new int[] {LEAST, -1, 4, GREATEST}) {
            refusedArgument(name + " of guest " + guest, host, () -> of.call(guest, 0));
        }
        for (int page : new int[] {LEAST, -1, 128, 240, GREATEST}) {
            refusedArgument(name + " of page " + page, host, () -> of.call(0, page));
            Check.badArgument("also of no guest", () -> of.call(3, page));
        }
        for (int guest = 1; guest < 4; guest++) {
            int g = guest;
            refusedState(name + " of guest " + g, host, () -> of.call(g, 0));
        }
        for (int page : new int[] {ram, 127}) {
            refusedState(name + " of page " + page + " not below RAM", host, () -> of.call(0, page));
        }
    }

    private static void denyWithoutRoom() {
        Check.sentence("ROOM: there is no NEW FRAME for its TABLE, which it needs.");
        NestedPager host = Hosts.withSlots(0);
        List<Integer> before = Snapshot.of(host);
        for (int v = 1; v < 8; v++) {
            Check.due("deny " + v, host.deny(1, 64, v), ROOM);
        }
        Check.due("deny 0 needs no TABLE", host.deny(1, 64, 0), 0);
        Check.holds("nothing changes", before.equals(Snapshot.of(host)));
        Check.due("one that has its TABLE", host.deny(1, 63, 7), 0);
        Check.due("the ENTRY", host.entry(1, 63), 7);
        host = Hosts.withSlots(1);
        int frame = Hosts.firstPageFrame(host, 0);
        Check.due("one is RECLAIMED for it", host.deny(1, 64, 7), 0);
        Hosts.dueOwner(host, frame, 1, 1, 64);
        Check.due("then none is left", host.deny(1, 80, 7), ROOM);
    }

    private static void swapAnswers() {
        Check.sentence("A page that is HERE is SWAPPED: its SLOT;");
        Rig rig = new Rig(128);
        NestedPager host = rig.host;
        rig.write(0, 1);
        rig.write(127 * 16, 2);
        Check.due("the last page", host.swap(0, 127), 0);
        Check.due("the first page", host.swap(0, 0), 1);
        Check.due("SWAPPED", host.entry(0, 127), 64 + 16);
        Check.due("SWAPPED", host.entry(0, 0), 256 + 64 + 16);
        rig.dueAccess("SLOT 0 comes free", Rig.READ, 127 * 16, 0, 2);
        rig.write(16, 3);
        Check.due("it is the least", host.swap(0, 1), 0);
        Check.due("they are not RECLAIMED", host.count(0, 7), 0);
        Check.due("THE HAND stays", host.host(2), 0);
    }

    private static void swapRefused() {
        Check.sentence("IllegalArgument, as with deny. IllegalState: also if it is not HERE.");
        Rig rig = new Rig(20);
        notHere("swap", rig, page -> rig.host.swap(0, page));
        badPages("swap", rig.host, 20, (g, page) -> rig.host.swap(g, page));
    }

    private interface OfMemory {
        void call(int page);
    }

    /** Pages of guest 0's memory that are not HERE, on a host where nothing has been done. */
    private static void notHere(String name, Rig rig, OfMemory of) {
        NestedPager host = rig.host;
        refusedState(name + " of a FRESH page without a TABLE", host, () -> of.call(0));
        rig.write(0, 1);
        refusedState(name + " of a FRESH page", host, () -> of.call(1));
        host.deny(0, 1, 7);
        refusedState(name + " of a FRESH page that is DENIED", host, () -> of.call(1));
        rig.write(2 * 16, 1);
        host.swap(0, 2);
        refusedState(name + " of a SWAPPED page", host, () -> of.call(2));
        Hosts.give(rig, 3);
        refusedState(name + " of a GIVEN page", host, () -> of.call(3));
        of.call(0);
    }

    private static void swapWithoutRoom() {
        Check.sentence("ROOM: none is free.");
        NestedPager host = Hosts.withSlots(1);
        Check.due("the last SLOT", host.swap(0, 64), 63);
        List<Integer> before = Snapshot.of(host);
        Check.due("none is free", host.swap(0, 65), ROOM);
        Check.due("none is free", host.swap(1, 0), ROOM);
        Check.holds("nothing changes", before.equals(Snapshot.of(host)));
        refusedState("one that is not HERE", host, () -> host.swap(0, 64));
        refusedArgument("one that is none", host, () -> host.swap(0, 128));
    }

    private static void moveAnswers() {
        Check.sentence("A page that is HERE moves into the least FREE frame: which;");
        Rig rig = new Rig(128);
        NestedPager host = rig.host;
        Hosts.fillPage(host, 0, 0, 40);
        Hosts.fillPage(host, 0, 1, 60);
        host.deny(0, 1, 5);
        Check.due("behind all others", host.move(0, 0), 4);
        Check.due("the least", host.move(0, 1), 2);
        Hosts.duePage(host, 0, 0, 40);
        Hosts.duePage(host, 0, 1, 60);
        Hosts.dueOwner(host, 4, 2, 0, 0);
        Hosts.dueOwner(host, 2, 2, 0, 1);
        Hosts.dueFree(host, 3);
        Check.due("the ENTRY", host.entry(0, 0), 4 * 256 + 32 + 16);
        Check.due("DENIED stays", host.entry(0, 1), 2 * 256 + 32 + 16 + 5);
        Hosts.fillPage(host, 0, 127, 80);
        Hosts.dueOwner(host, 5, 2, 0, 127);
        Check.due("the last page", host.move(0, 127), 6);
        Hosts.duePage(host, 0, 127, 80);
        Check.due("a moved page is SWAPPED", host.swap(0, 1), 0);
        Check.due("its ENTRY", host.entry(0, 1), 64 + 16 + 5);
        Check.due("the other's", host.entry(0, 0), 4 * 256 + 32 + 16);
    }

    private static void moveRefused() {
        Check.sentence("IllegalArgument, as with deny. IllegalState: also if it is not HERE.");
        Rig rig = new Rig(20);
        notHere("move", rig, page -> rig.host.move(0, page));
        badPages("move", rig.host, 20, (g, page) -> rig.host.move(g, page));
    }

    private static void moveWithoutRoom() {
        Check.sentence("A page that is HERE moves into the least FREE frame: which; ROOM: there is none.");
        NestedPager host = Hosts.withoutFrames().host;
        List<Integer> before = Snapshot.of(host);
        Check.due("none is RECLAIMED", host.move(0, 118), ROOM);
        Check.holds("nothing changes", before.equals(Snapshot.of(host)));
        refusedState("one that is not HERE", host, () -> host.move(0, 119));
        refusedArgument("one that is none", host, () -> host.move(0, 128));
        host.swap(0, 0);
        Check.due("one is FREE", host.move(0, 118), 2);
        Hosts.dueFree(host, 127);
        Check.due("into the last", host.move(0, 118), 127);
    }

    private static void targetAnswers() {
        Check.sentence("The TARGET of a guest becomes n, 0 .. 128: what it was.");
        NestedPager host = new NestedPager();
        host.guest(1);
        Check.due("target(128)", host.target(0, 128), 0);
        Check.due("target(0)", host.target(0, 0), 128);
        Check.due("target(1)", host.target(0, 1), 0);
        Check.due("count", host.count(0, 1), 1);
        for (int n : new int[] {LEAST, -1, 129, GREATEST}) {
            refusedArgument("target " + n, host, () -> host.target(0, n));
            Check.badArgument("also of no guest", () -> host.target(3, n));
        }
        for (int guest : new int[] {LEAST, -1, 4, GREATEST}) {
            refusedArgument("target of guest " + guest, host, () -> host.target(guest, 0));
        }
        refusedState("no guest 1", host, () -> host.target(1, 0));
    }

    private static void harvestAnswers() {
        Check.sentence("All pages of a guest that are DIRTY are so no longer: how many; they are those that dirty() "
            + "tells of.");
        Rig rig = new Rig(128);
        NestedPager host = rig.host;
        Check.due("none", host.harvest(0), 0);
        Check.due("none", host.dirty(0), NONE);
        rig.write(127 * 16, 1);
        rig.dueAccess("page 0", Rig.WRITE, 0, 1, 0);
        rig.dueAccess("page 1 is READ", Rig.READ, 16, 0, 0);
        host.swap(0, 127);
        Check.due("HERE and SWAPPED", host.harvest(0), 2);
        Check.due("the least", host.dirty(0), 0);
        Check.due("the greatest", host.dirty(1), 127);
        Check.due("no more", host.dirty(2), NONE);
        Check.due("HERE", host.entry(0, 0), 4 * 256 + 32 + 8);
        Check.due("SWAPPED", host.entry(0, 127), 64);
        for (int guest : new int[] {LEAST, -1, 4, GREATEST}) {
            refusedArgument("harvest(" + guest + ")", host, () -> host.harvest(guest));
        }
        refusedState("no guest 1", host, () -> host.harvest(1));
        Check.due("none since then", host.harvest(0), 0);
    }

    private static void harvestOfAll() {
        Check.sentence("All pages of a guest that are DIRTY are so no longer: how many;");
        NestedPager host = Hosts.withSlots(0);
        Check.due("all 128", host.harvest(0), 128);
        for (int k = 0; k < 128; k++) {
            Check.due("dirty(" + k + ")", host.dirty(k), k);
        }
        Check.due("no more", host.dirty(128), NONE);
        Check.due("of guest 1", host.harvest(1), 50);
        Check.due("the last of these", host.dirty(49), 49);
        Check.due("no more of the first", host.dirty(50), NONE);
        Check.due("none is left", host.harvest(0), 0);
        Check.due("none", host.dirty(0), NONE);
    }

    private static void dirtyAnswers() {
        Check.sentence("Page k of the latest harvest(), the least first; NONE: none such.");
        NestedPager host = new NestedPager();
        for (int k : new int[] {LEAST, -1, 0, 1, 127, 128, GREATEST}) {
            Check.due("without a harvest", host.dirty(k), NONE);
        }
        host.guest(30);
        host.guest(30);
        for (int page : new int[] {29, 16, 15, 3}) {
            host.poke(0, page * 16, 1, 1, 1, 1);
        }
        host.harvest(0);
        int[] want = {3, 15, 16, 29};
        for (int k = 0; k < 4; k++) {
            Check.due("dirty(" + k + ")", host.dirty(k), want[k]);
        }
        for (int k : new int[] {LEAST, -1, 4, 127, 128, GREATEST}) {
            Check.due("dirty(" + k + ")", host.dirty(k), NONE);
        }
        host.poke(0, 0, 1, 1, 1, 1);
        Check.due("not what came since", host.dirty(0), 3);
        Check.badState("harvest of no guest", () -> host.harvest(3));
        Check.badArgument("harvest of none", () -> host.harvest(4));
        Check.due("these were none", host.dirty(3), 29);
        host.destroy(0);
        Check.due("the latest, though its guest is gone", host.dirty(3), 29);
        host.harvest(1);
        Check.due("the latest now", host.dirty(0), NONE);
    }

    private static void entryAnswers() {
        Check.sentence("The ENTRY of a page, 0 .. 127, of a guest (0 of one not below RAM).");
        Rig rig = new Rig(20);
        NestedPager host = rig.host;
        host.deny(0, 19, 5);
        Check.due("the last", host.entry(0, 19), 5);
        for (int page : new int[] {0, 20, 31, 32, 127}) {
            Check.due("entry(" + page + ")", host.entry(0, page), 0);
        }
        for (int page : new int[] {LEAST, -1, 128, 240, GREATEST}) {
            refusedArgument("entry(" + page + ")", host, () -> host.entry(0, page));
            Check.badArgument("also of no guest", () -> host.entry(3, page));
        }
        for (int guest : new int[] {LEAST, -1, 4, GREATEST}) {
            refusedArgument("guest " + guest, host, () -> host.entry(guest, 0));
        }
        refusedState("no guest 1", host, () -> host.entry(1, 127));
    }

    private static void pokeLimits() {
        Check.sentence("The host writes four words at a guest's address, and on (0 .. 2047; all in one page: the "
            + "address is a multiple of 4):");
        Rig rig = new Rig(128);
        NestedPager host = rig.host;
        for (int address : new int[] {0, 12, 16, 2032, 2044}) {
            Check.due("poke at " + address, host.poke(0, address, 1, 65535, 0, address + 3), 0);
            int[] want = {1, 65535, 0, address + 3};
            for (int i = 0; i < 4; i++) {
                Check.due("word " + i, host.peek(0, address + i), want[i]);
            }
        }
        for (int address : new int[] {LEAST, -4, -1, 1, 2, 3, 2045, 2046, 2047, 2048, 3840, GREATEST}) {
            refusedArgument("poke at " + address, host, () -> host.poke(0, address, 0, 0, 0, 0));
            Check.badArgument("also of no guest", () -> host.poke(3, address, 0, 0, 0, 0));
        }
    }

    private static void pokeRefused() {
        Check.sentence("IllegalArgument: also if one is no word. IllegalState.");
        NestedPager host = new Rig(128).host;
        for (int bad : new int[] {LEAST, -1, 65536, GREATEST}) {
            refusedArgument("a", host, () -> host.poke(0, 0, bad, 0, 0, 0));
            refusedArgument("b", host, () -> host.poke(0, 0, 0, bad, 0, 0));
            refusedArgument("c", host, () -> host.poke(0, 0, 0, 0, bad, 0));
            refusedArgument("d", host, () -> host.poke(0, 0, 0, 0, 0, bad));
        }
        for (int guest : new int[] {LEAST, -1, 4, GREATEST}) {
            refusedArgument("guest " + guest, host, () -> host.poke(guest, 0, 0, 0, 0, 0));
        }
        refusedState("no guest 1", host, () -> host.poke(1, 0, 0, 0, 0, 0));
    }

    private static void pokeReasons() {
        Check.sentence("its page is REACHED for WRITE, whatever is DENIED, without ACCESSED: 0; or the reason of what "
            + "would be an EXIT.");
        Rig rig = new Rig(20);
        NestedPager host = rig.host;
        Check.due("the last page", host.poke(0, 19 * 16 + 12, 1, 1, 1, 1), 0);
        Check.due("the page behind", host.poke(0, 20 * 16, 1, 1, 1, 1), Rig.NOTHING);
        Check.due("the last of all", host.poke(0, 2044, 1, 1, 1, 1), Rig.NOTHING);
        host.deny(0, 5, 7);
        Check.due("whatever is DENIED", host.poke(0, 5 * 16, 1, 1, 1, 1), 0);
        Hosts.give(rig, 6);
        Check.due("GIVEN", host.poke(0, 6 * 16, 1, 1, 1, 1), Rig.GIVEN);
        rig.dueExit("the VCPU had none", 0, 0, 0, 0, 0);
        NestedPager full = Hosts.withSlots(0);
        List<Integer> before = Snapshot.of(full);
        Check.due("NOROOM for the page", full.poke(1, 63 * 16, 1, 1, 1, 1), Rig.NOROOM);
        Check.due("NOROOM for the TABLE", full.poke(1, 64 * 16, 1, 1, 1, 1), Rig.NOROOM);
        Check.due("NOROOM for what is SWAPPED", full.poke(0, 0, 1, 1, 1, 1), Rig.NOROOM);
        Check.holds("nothing changes", before.equals(Snapshot.of(full)));
    }

    private static void pokeIsNoAccess() {
        Check.sentence("its page is REACHED for WRITE, whatever is DENIED, without ACCESSED: 0;");
        Rig rig = new Rig(20);
        NestedPager host = rig.host;
        host.poke(0, 0, 1, 1, 1, 1);
        Check.due("FRESH: DIRTY alone", host.entry(0, 0), 2 * 256 + 32 + 16);
        rig.dueAccess("READ", Rig.READ, 0, 0, 1);
        host.harvest(0);
        host.poke(0, 0, 1, 1, 1, 1);
        Check.due("HERE: ACCESSED stays", host.entry(0, 0), 2 * 256 + 32 + 16 + 8);
        host.harvest(0);
        host.swap(0, 0);
        host.poke(0, 4, 2, 2, 2, 2);
        Check.due("SWAPPED: DIRTY alone", host.entry(0, 0), 2 * 256 + 32 + 16);
        Check.due("its other words", host.peek(0, 3), 1);
        Check.due("a DEMAND", host.count(0, 5), 1);
        Check.due("a SWAPIN", host.count(0, 6), 1);
        Check.due("a TICK by the READ alone", host.count(0, 8), 1);
    }

    private static void peekAnswers() {
        Check.sentence("The word at a guest's address, 0 .. 2047, in its frame or SLOT, 0 without; nothing changes.");
        Rig rig = new Rig(128);
        NestedPager host = rig.host;
        rig.write(2044, 1, 2, 3, 65535);
        rig.write(0, 7, 8, 9, 10);
        host.swap(0, 0);
        Hosts.give(rig, 64);
        host.deny(0, 127, 7);
        List<Integer> before = Snapshot.of(host);
        Check.due("the last word", host.peek(0, 2047), 65535);
        Check.due("in its SLOT", host.peek(0, 3), 10);
        Check.due("the first word", host.peek(0, 0), 7);
        Check.due("a FRESH page", host.peek(0, 16), 0);
        Check.due("without a TABLE", host.peek(0, 40 * 16), 0);
        Check.due("a GIVEN page", host.peek(0, 64 * 16), 0);
        for (int address : new int[] {LEAST, -1, 2048, 3840, GREATEST}) {
            refusedArgument("peek(" + address + ")", host, () -> host.peek(0, address));
            Check.badArgument("also of no guest", () -> host.peek(3, address));
        }
        for (int guest : new int[] {LEAST, -1, 4, GREATEST}) {
            refusedArgument("guest " + guest, host, () -> host.peek(guest, 0));
        }
        refusedState("no guest 1", host, () -> host.peek(1, 0));
        Check.holds("nothing changes", before.equals(Snapshot.of(host)));
        host.guest(1);
        Check.due("not below RAM", host.peek(1, 16), 0);
        Check.due("not below RAM", host.peek(1, 2047), 0);
    }

    private static void frameLimits() {
        Check.sentence("Word i, 0 .. 15, of a frame. IllegalArgument.");
        NestedPager host = Hosts.withoutFrames().host;
        host.poke(0, 118 * 16 + 12, 1, 2, 3, 65535);
        Check.due("the last", host.frame(127, 15), 65535);
        Check.due("the first", host.frame(0, 0), 256 + 1);
        for (int bad : new int[] {LEAST, -1, GREATEST}) {
            refusedArgument("frame " + bad, host, () -> host.frame(bad, 0));
            refusedArgument("word " + bad, host, () -> host.frame(0, bad));
        }
        refusedArgument("frame 128", host, () -> host.frame(128, 0));
        refusedArgument("word 16", host, () -> host.frame(0, 16));
    }

    private static void ownerAnswers() {
        Check.sentence("what = 0: 0 FREE, 1 a TABLE, 2 a PAGE; 1 its guest, NONE if it is FREE; 2 its page (of a TABLE "
            + "the first of its pages, 256 for a ROOT TABLE), NONE if it is FREE.");
        NestedPager host = new NestedPager();
        for (int guest = 0; guest < 4; guest++) {
            host.guest(128);
        }
        host.poke(3, 2032, 1, 1, 1, 1);
        host.poke(0, 0, 1, 1, 1, 1);
        for (int guest = 0; guest < 4; guest++) {
            Hosts.dueOwner(host, guest, 1, guest, 256);
        }
        Hosts.dueOwner(host, 4, 1, 3, 112);
        Hosts.dueOwner(host, 5, 2, 3, 127);
        Hosts.dueOwner(host, 6, 1, 0, 0);
        Hosts.dueOwner(host, 7, 2, 0, 0);
        Hosts.dueOwner(host, 8, 0, NONE, NONE);
        Hosts.dueOwner(host, 127, 0, NONE, NONE);
        host.swap(3, 127);
        Hosts.dueOwner(host, 5, 0, NONE, NONE);
        for (int bad : new int[] {LEAST, -1, GREATEST}) {
            refusedArgument("frame " + bad, host, () -> host.owner(bad, 0));
            refusedArgument("what " + bad, host, () -> host.owner(0, bad));
        }
        refusedArgument("frame 128", host, () -> host.owner(128, 0));
        refusedArgument("what 3", host, () -> host.owner(0, 3));
    }

    private static void countAnswers() {
        Check.sentence("what = 0 RAM, 1 TARGET, 2 pages HERE, 3 SWAPPED, 4 GIVEN, 5 DEMANDS, 6 SWAPINS, 7 how often a "
            + "page of it was RECLAIMED, 8 TICKS, 9 how many were printed, 10 MAILS, 11 how many VCPUS.");
        NestedPager host = new NestedPager();
        host.guest(128);
        for (int what = 0; what < 12; what++) {
            Check.due("of a new guest", host.count(0, what), what == 0 ? 128 : 0);
        }
        for (int bad : new int[] {LEAST, -1, 12, GREATEST}) {
            refusedArgument("count(0, " + bad + ")", host, () -> host.count(0, bad));
            Check.badArgument("also of no guest", () -> host.count(3, bad));
        }
        for (int guest : new int[] {LEAST, -1, 4, GREATEST}) {
            refusedArgument("guest " + guest, host, () -> host.count(guest, 0));
        }
        refusedState("no guest 1", host, () -> host.count(1, 11));
        for (int i = 0; i < 8; i++) {
            host.vcpu(0);
        }
        Check.due("VCPUS", host.count(0, 11), 8);
        for (int page = 0; page < 119; page++) {
            host.poke(0, page * 16, Rig.call(1), 0, 0, 0);
        }
        host.set(0, Rig.A, 118);
        host.run(0, 1);
        host.swap(0, 117);
        host.access(0, 0, 117 * 16, 0);
        host.target(0, 3);
        for (int i = 0; i < 9; i++) {
            host.access(0, 1, Rig.POST, i);
        }
        host.access(0, 1, Rig.CONSOLE, 1);
        int[] want = {128, 3, 118, 0, 1, 119, 1, 0, 12, 1, 8, 8};
        for (int what = 0; what < 12; what++) {
            Check.due("count(" + what + ")", host.count(0, what), want[what]);
        }
    }

    private static void countOfReclaimed() {
        Check.sentence("7 how often a page of it was RECLAIMED,");
        NestedPager host = Hosts.withSlots(2);
        Check.due("guest 1 takes two of guest 0", host.poke(1, 64 * 16, 1, 1, 1, 1), 0);
        Check.due("of guest 0", host.count(0, 7), 2);
        Check.due("of guest 1", host.count(1, 7), 0);
        Check.due("NOROOM", host.poke(1, 80 * 16, 1, 1, 1, 1), Rig.NOROOM);
        Check.due("none by that", host.count(0, 7), 2);
        Rig rig = Hosts.withoutFrames();
        rig.host.swap(0, 0);
        rig.host.move(0, 5);
        Check.due("swap() and move() are none", rig.host.count(0, 7), 0);
        rig.dueAccess("one is FREE", Rig.READ, 119 * 16, 0, 0);
        Check.due("none yet", rig.host.count(0, 7), 0);
        for (int i = 0; i < 8; i++) {
            rig.dueAccess("page " + (120 + i), Rig.READ, (120 + i) * 16, 0, 0);
            Check.due("one more", rig.host.count(0, 7), i + 1);
        }
    }

    private static void printedAnswers() {
        Check.sentence("Byte k that a guest printed, of those kept; NONE: none such.");
        Rig rig = new Rig(1);
        NestedPager host = rig.host;
        for (int k : new int[] {LEAST, -1, 0, 199, 200, GREATEST}) {
            Check.due("nothing is printed", host.printed(0, k), NONE);
        }
        for (int i = 0; i < 201; i++) {
            rig.access(Rig.WRITE, Rig.CONSOLE, i + 20);
        }
        Check.due("the first", host.printed(0, 0), 20);
        Check.due("the last kept", host.printed(0, 199), 219);
        for (int k : new int[] {LEAST, -1, 200, 201, GREATEST}) {
            Check.due("printed(0, " + k + ")", host.printed(0, k), NONE);
        }
        for (int guest : new int[] {LEAST, -1, 4, GREATEST}) {
            refusedArgument("guest " + guest, host, () -> host.printed(guest, 0));
        }
        refusedState("no guest 1", host, () -> host.printed(1, -1));
    }

    private static void hostAnswers() {
        Check.sentence("what = 0 FREE frames, 1 free SLOTS, 2 where THE HAND is, 3 guests, 4 VCPUS. IllegalArgument.");
        NestedPager host = new NestedPager();
        for (int bad : new int[] {LEAST, -1, 5, GREATEST}) {
            refusedArgument("host(" + bad + ")", host, () -> host.host(bad));
        }
        NestedPager full = Hosts.withSlots(0);
        int[] want = {0, 0, 0, 2, 2};
        for (int what = 0; what < 5; what++) {
            Check.due("host(" + what + ")", full.host(what), want[what]);
        }
        full.destroy(0);
        full.destroy(1);
        int[] then = {128, 64, 0, 0, 0};
        for (int what = 0; what < 5; what++) {
            Check.due("host(" + what + ")", full.host(what), then[what]);
        }
    }

    private static void statesThatAreNot() {
        Check.sentence("IllegalState: there is no such guest, VCPU, or thing, now.");
        NestedPager host = new NestedPager();
        host.guest(20);
        host.guest(20);
        host.vcpu(0);
        host.vcpu(1);
        host.poke(1, 0, 1, 1, 1, 1);
        host.destroy(1);
        Runnable[] calls = {
            () -> host.destroy(1), () -> host.vcpu(1), () -> host.set(1, 0, 0), () -> host.get(1, 0),
            () -> host.access(1, 0, 0, 0), () -> host.run(1, 1), () -> host.exit(1, 0), () -> host.flush(1, 0, 0),
            () -> host.aside(1, 0, 0), () -> host.deny(1, 0, 0), () -> host.swap(1, 0), () -> host.move(1, 0),
            () -> host.target(1, 0), () -> host.harvest(1), () -> host.entry(1, 0),
            () -> host.poke(1, 0, 0, 0, 0, 0), () -> host.peek(1, 0), () -> host.count(1, 0), () -> host.printed(1, 0)
        };
        for (int i = 0; i < calls.length; i++) {
            refusedState("call " + i + " of what went", host, calls[i]);
        }
        host.guest(20);
        host.vcpu(1);
        for (int i = 2; i < calls.length; i++) {
            if (i != 10 && i != 11) {
                calls[i].run();
            }
        }
        Check.due("they hold for the new one", host.count(1, 8), 2);
        refusedState("a thing: a page that is FRESH", host, () -> host.swap(1, 5));
        refusedState("a thing: a page not below RAM", host, () -> host.deny(1, 20, 1));
    }

    private static void argumentsGoFirst() {
        Check.sentence("What throws changes nothing; IllegalArgument goes first: a number is none of those told here.");
        NestedPager host = new NestedPager();
        Runnable[] calls = {
            () -> host.set(0, 10, 0), () -> host.set(0, 3, 2), () -> host.get(0, 19), () -> host.access(0, 3, 0, 0),
            () -> host.access(0, 0, 4096, 0), () -> host.access(0, 0, 0, 65536), () -> host.run(0, 0),
            () -> host.exit(0, 5), () -> host.flush(0, 3, 0), () -> host.flush(0, 0, 4096), () -> host.aside(0, 8, 0),
            () -> host.aside(0, 0, 4), () -> host.deny(0, 128, 0), () -> host.deny(0, 0, 8), () -> host.swap(0, 128),
            () -> host.move(0, 128), () -> host.target(0, 129), () -> host.entry(0, 128),
            () -> host.poke(0, 2, 0, 0, 0, 0), () -> host.poke(0, 0, 0, 0, 0, 65536), () -> host.peek(0, 2048),
            () -> host.count(0, 12)
        };
        for (int i = 0; i < calls.length; i++) {
            refusedArgument("call " + i + " without a guest", host, calls[i]);
        }
        host.guest(1);
        host.vcpu(0);
        for (int i = 0; i < calls.length; i++) {
            refusedArgument("call " + i + " with a guest", host, calls[i]);
        }
    }
}
