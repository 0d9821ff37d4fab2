/** Steps of programs, faults and their handler, calls of the host (Terms; promises 5, 6, 8, 9). */
final class ProgramTest {
    private static final int SPARE = 5 * 16;

    private ProgramTest() {
    }

    public static void main(String[] args) {
        loadsAndStores();
        arithmetic();
        jumps();
        constants();
        indexed();
        pcGoesRound();
        halting();
        stopping();
        runCounts();
        trapsReachHandler();
        trapsWithoutHandler();
        unknownInstructions();
        privilegedInstructions();
        faultsOfAccesses();
        handlesOnce();
        goingBack();
        controlRegisters();
        controlFlushes();
        pagingSwitchedByProgram();
        givingPages();
        takingPagesBack();
        otherCalls();
        callsFlushAll();
        callsSendEvents();
        settingRegisters();
        Check.end();
    }

    /** A program at 0 that is run for so many steps, A and X being 0 at first. */
    private static Rig ran(int steps, int... words) {
        Rig rig = new Rig(16);
        rig.write(0, words);
        rig.dueRun("program", steps, steps);
        return rig;
    }

    private static void loadsAndStores() {
        Rig rig = new Rig(16);
        rig.write(0, Rig.load(SPARE), Rig.store(SPARE + 1), Rig.op(10, SPARE + 2));
        rig.write(SPARE, 65535, 1, 777);
        rig.dueRun("1", 1, 1);
        rig.dueReg("1", Rig.A, 65535);
        rig.dueReg("1", Rig.PC, 1);
        rig.dueRun("2", 1, 1);
        Check.due("2", rig.host.peek(0, SPARE + 1), 65535);
        rig.dueReg("2", Rig.A, 65535);
        rig.dueRun("10", 1, 1);
        rig.dueReg("10", Rig.X, 777);
        rig.dueReg("10", Rig.A, 65535);
        rig.dueReg("steps", Rig.STEPS, 3);
        rig.dueReg("PC", Rig.PC, 3);
    }

    private static void arithmetic() {
        int[] code = {3, 3, 4, 4, 5, 5};
        int[] a = {65535, 7, 3, 7, 0xF0F0, 65535};
        int[] word = {2, 8, 5, 7, 0xFF00, 0x1234};
        int[] want = {1, 15, 65534, 0, 0xF000, 0x1234};
        for (int i = 0; i < code.length; i++) {
            Rig rig = new Rig(16);
            rig.write(0, Rig.op(code[i], SPARE));
            rig.write(SPARE, word[i]);
            rig.set(Rig.A, a[i]);
            rig.dueRun("arithmetic " + i, 1, 1);
            rig.dueReg("arithmetic " + i, Rig.A, want[i]);
            Check.due("the word stays", rig.host.peek(0, SPARE), word[i]);
        }
    }

    private static void jumps() {
        int[] code = {6, 6, 7, 7, 8, 8};
        int[] a = {0, 5, 0, 5, 0, 5};
        int[] want = {4095, 4095, 4095, 1, 1, 4095};
        for (int i = 0; i < code.length; i++) {
            Rig rig = new Rig(16);
            rig.write(0, Rig.op(code[i], 4095));
            rig.set(Rig.A, a[i]);
            rig.dueRun("jump " + i, 1, 1);
            rig.dueReg("jump " + i, Rig.PC, want[i]);
            rig.dueReg("jump " + i, Rig.A, a[i]);
        }
    }

    private static void constants() {
        int[] t = {0, 1, 2047, 2048, 4095};
        int[] want = {0, 1, 2047, 65536 - 2048, 65535};
        for (int i = 0; i < t.length; i++) {
            ran(1, Rig.op(9, t[i])).dueReg("9 " + t[i], Rig.A, want[i]);
        }
    }

    private static void indexed() {
        Rig rig = new Rig(16);
        rig.write(0, Rig.op(11, SPARE), Rig.op(12, SPARE + 1), Rig.op(11, 4090), Rig.op(12, 4095));
        rig.write(SPARE, 0, 0, 0, 42);
        rig.set(Rig.X, 3);
        rig.dueRun("11", 1, 1);
        rig.dueReg("11", Rig.A, 42);
        rig.dueRun("12", 1, 1);
        Check.due("12", rig.host.peek(0, SPARE + 4), 42);
        rig.set(Rig.X, SPARE + 3 + 6);
        rig.dueRun("11 modulo 4096", 1, 1);
        rig.dueReg("11 modulo 4096", Rig.A, 42);
        rig.set(Rig.X, 65535);
        rig.set(Rig.A, 43);
        rig.dueRun("12 modulo 4096", 1, 0);
        rig.dueExit("12 modulo 4096", Rig.NOTHING, 4094, 4094, 1, 0);
        rig.set(Rig.X, 4096 * 15 + SPARE + 1);
        rig.dueRun("12 modulo 4096", 1, 1);
        Check.due("12 modulo 4096", rig.host.peek(0, SPARE), 43);
    }

    private static void pcGoesRound() {
        Rig rig = new Rig(16);
        // Page 255 of the addresses is page 2 of the guest, and page 0 is page 0.
        rig.write(16, Rig.to(3, 7));
        rig.write(28, 0, 0, 0, Rig.to(3, 7));
        rig.write(48, Rig.to(0, 7));
        rig.write(60, 0, 0, 0, Rig.to(2, 7));
        rig.write(44, 0, 0, 0, Rig.set(9));
        rig.write(0, Rig.set(8));
        rig.set(Rig.ROOT, 1);
        rig.set(Rig.BITS, 1);
        rig.set(Rig.PC, 4095);
        rig.dueRun("at 4095", 1, 1);
        rig.dueReg("at 4095", Rig.PC, 0);
        rig.dueReg("at 4095", Rig.A, 9);
        rig.dueRun("at 0", 1, 1);
        rig.dueReg("at 0", Rig.A, 8);
        rig.write(44, 0, 0, 0, Rig.trap(5));
        rig.set(Rig.PC, 4095);
        rig.set(Rig.HANDLER, 4095);
        rig.dueRun("13 at 4095", 1, 1);
        rig.dueReg("EPC goes round too", Rig.EPC, 0);
    }

    private static void halting() {
        Rig rig = ran(2, Rig.set(1), Rig.HALT, Rig.set(2), Rig.HALT);
        rig.dueReg("HALT", Rig.STATE, Rig.HALTED);
        rig.dueReg("PC is behind it", Rig.PC, 2);
        rig.dueRun("without EVENTS", 5, 0);
        rig.dueReg("still", Rig.STATE, Rig.HALTED);
        rig.dueAccess("an EVENT", Rig.WRITE, Rig.POST, 5, 0);
        rig.dueReg("does not wake it by itself", Rig.STATE, Rig.HALTED);
        rig.dueRun("with EVENTS", 1, 1);
        rig.dueReg("it runs", Rig.STATE, Rig.RUNS);
        rig.dueReg("EVENTS stay", Rig.EVENTS, 1);
        rig.dueRun("to the HALT", 5, 1);
        rig.dueReg("HALT", Rig.STATE, Rig.HALTED);
        rig.dueReg("steps", Rig.STEPS, 4);
    }

    private static void stopping() {
        Rig rig = new Rig(16);
        rig.write(0, Rig.set(3), Rig.load(16 * 16 + 2), Rig.set(4), Rig.HALT);
        rig.dueRun("up to the EXIT", 5, 1);
        rig.dueReg("it is STOPPED", Rig.STATE, Rig.STOPPED);
        rig.dueReg("PC stays", Rig.PC, 1);
        rig.dueReg("A stays", Rig.A, 3);
        rig.dueReg("an EXIT is no step", Rig.STEPS, 1);
        rig.dueExit("the EXIT", Rig.NOTHING, 258, 258, 0, 0);
        Check.due("but a TICK", rig.host.count(0, 8), 2);
        rig.dueRun("it is tried again", 5, 0);
        Check.due("a TICK", rig.host.count(0, 8), 3);
        rig.write(0, Rig.set(3), Rig.load(3), Rig.set(4), Rig.HALT);
        rig.dueRun("now it goes on", 1, 1);
        rig.dueReg("it runs", Rig.STATE, Rig.RUNS);
        rig.dueReg("A", Rig.A, Rig.HALT);
        rig.dueRun("to the HALT", 5, 2);
        rig.set(Rig.PC, 500);
        rig.dueRun("HALTED", 5, 0);
        rig.dueReg("HALTED", Rig.STATE, Rig.HALTED);
        Rig other = new Rig(16);
        other.set(Rig.PC, 240 * 16 + 7);
        other.dueRun("a FETCH from a device", 5, 0);
        other.dueExit("a FETCH", Rig.DEVICE, 240 * 16 + 7, 240 * 16 + 7, 2, 0);
        other.dueAccess("access() is not STOPPED", Rig.READ, 0, 0, 0);
        other.dueReg("state", Rig.STATE, Rig.STOPPED);
    }

    private static void runCounts() {
        Rig rig = new Rig(16);
        rig.write(0, Rig.jump(0));
        rig.dueRun("one", 1, 1);
        rig.dueRun("a thousand", 1000, 1000);
        rig.dueReg("steps", Rig.STEPS, 1001);
        Check.due("TICKS", rig.host.count(0, 8), 1001);
        Check.badState("no VCPU", () -> rig.host.run(1, 1));
    }

    private static void trapsReachHandler() {
        Rig rig = new Rig(16);
        rig.write(0, Rig.trap(4094), Rig.HALT);
        rig.set(Rig.HANDLER, SPARE);
        rig.set(Rig.MODE, 1);
        rig.set(Rig.A, 6);
        rig.dueRun("13", 1, 1);
        rig.dueReg("EPC is behind it", Rig.EPC, 1);
        rig.dueReg("EMODE", Rig.EMODE, 1);
        rig.dueReg("ECODE", Rig.ECODE, 64);
        rig.dueReg("EVA", Rig.EVA, 4094);
        rig.dueReg("MODE", Rig.MODE, 0);
        rig.dueReg("PC", Rig.PC, SPARE);
        rig.dueReg("HANDLES", Rig.HANDLES, 1);
        rig.dueReg("A stays", Rig.A, 6);
        rig.dueReg("it counts", Rig.STEPS, 1);
        rig.dueReg("it runs", Rig.STATE, Rig.RUNS);
        rig.dueFault("the last FAULT", 64, 4094);
        rig.dueExit("no EXIT", 0, 0, 0, 0, 0);
    }

    private static void trapsWithoutHandler() {
        Rig rig = new Rig(16);
        rig.write(0, Rig.set(2), Rig.trap(99), Rig.HALT);
        rig.set(Rig.MODE, 1);
        rig.dueRun("13", 9, 1);
        rig.dueReg("STOPPED", Rig.STATE, Rig.STOPPED);
        rig.dueReg("PC stays", Rig.PC, 1);
        rig.dueReg("MODE stays", Rig.MODE, 1);
        rig.dueExit("FAULTED", Rig.FAULTED, 0, 99, 0, 0);
        rig.dueFault("the last FAULT", 64, 99);
        rig.dueReg("no EPC", Rig.EPC, 0);
        rig.dueReg("no ECODE", Rig.ECODE, 0);
        rig.dueReg("HANDLES not", Rig.HANDLES, 0);
        rig.set(Rig.HANDLER, 0);
        rig.dueRun("with a HANDLER at 0", 1, 1);
        rig.dueReg("PC", Rig.PC, 0);
        rig.dueReg("HANDLES", Rig.HANDLES, 1);
    }

    private static void unknownInstructions() {
        for (int word : new int[] {17, 18, 4095, Rig.op(15, 0), Rig.op(15, 4095)}) {
            Rig rig = new Rig(16);
            rig.write(0, Rig.set(1), word);
            rig.set(Rig.HANDLER, 7);
            rig.dueRun("word " + word, 2, 2);
            rig.dueReg("ECODE", Rig.ECODE, 32);
            rig.dueReg("EVA is PC", Rig.EVA, 1);
            rig.dueReg("EPC is PC", Rig.EPC, 1);
            rig.dueFault("the last FAULT", 32, 1);
        }
    }

    private static void privilegedInstructions() {
        for (int t = 0; t <= 16; t++) {
            Rig rig = new Rig(16);
            rig.write(0, t);
            rig.set(Rig.MODE, 1);
            rig.set(Rig.X, 5);
            rig.set(Rig.A, 6);
            boolean free = t == 14 || t == 15;
            rig.dueRun("0 " + t + " in user MODE", 1, free ? 1 : 0);
            rig.dueReg("its FAULT", Rig.FAULT_CODE, free ? 0 : 32);
            rig.dueReg("its state", Rig.STATE, free ? Rig.RUNS : Rig.STOPPED);
            rig.dueReg("X", Rig.X, t == 14 ? 6 : 5);
            rig.dueReg("A", Rig.A, t == 15 ? 5 : 6);
            rig.dueReg("MODE", Rig.MODE, 1);
        }
        Rig rig = new Rig(16);
        rig.write(0, Rig.set(3), Rig.call(6));
        rig.set(Rig.MODE, 1);
        rig.dueRun("14 in user MODE", 2, 1);
        rig.dueExit("FAULTED", Rig.FAULTED, 0, 1, 0, 0);
        rig.dueFault("its FAULT", 32, 1);
        rig.dueReg("A stays", Rig.A, 3);
        rig.set(Rig.MODE, 0);
        rig.dueRun("14 in supervisor MODE", 1, 1);
    }

    /** Page tables in pages 1 and 2 map 0 to page 0, 1 to page 4 (no WRITE, no EXECUTE); 2 is not there. */
    private static Rig paged(int... words) {
        Rig rig = new Rig(16);
        rig.write(0, words);
        rig.write(16, Rig.to(2, 7));
        rig.write(32, Rig.to(0, 7), Rig.to(4, Rig.P | Rig.U | Rig.NX));
        rig.set(Rig.ROOT, 1);
        rig.set(Rig.BITS, 3);
        return rig;
    }

    private static void faultsOfAccesses() {
        Rig rig = paged(Rig.set(9), Rig.store(19));
        rig.set(Rig.HANDLER, 2);
        rig.dueRun("a WRITE", 2, 2);
        rig.dueReg("ECODE", Rig.ECODE, 3);
        rig.dueReg("EVA", Rig.EVA, 19);
        rig.dueReg("EPC is PC", Rig.EPC, 1);
        Check.due("nothing is written", rig.host.peek(0, 4 * 16 + 3), 0);
        rig = paged(Rig.set(9), Rig.load(32));
        rig.set(Rig.MODE, 1);
        rig.dueRun("a READ without a HANDLER", 2, 1);
        rig.dueExit("FAULTED", Rig.FAULTED, 0, 32, 0, 0);
        rig.dueFault("its FAULT", 4, 32);
        rig.dueReg("A stays", Rig.A, 9);
        rig = paged(Rig.jump(20));
        rig.set(Rig.HANDLER, 0);
        rig.dueRun("a FETCH", 2, 2);
        rig.dueReg("ECODE", Rig.ECODE, 17);
        rig.dueReg("EVA", Rig.EVA, 20);
        rig.dueReg("EPC", Rig.EPC, 20);
        rig = paged(Rig.op(10, 40));
        rig.set(Rig.X, 5);
        rig.dueRun("X stays", 1, 0);
        rig.dueReg("X stays", Rig.X, 5);
        // An EXIT in a walk of a step stops it, too.
        rig.set(Rig.ROOT, 200);
        rig.host.flush(0, 0, 0);
        rig.dueRun("an EXIT", 1, 0);
        rig.dueExit("in a walk", Rig.NOTHING, 200 * 16, 0, 2, 1);
    }

    private static void handlesOnce() {
        Rig rig = new Rig(16);
        rig.write(0, Rig.trap(1), Rig.HALT);
        rig.write(SPARE, Rig.trap(2), Rig.set(7));
        rig.set(Rig.HANDLER, SPARE);
        rig.dueRun("a FAULT in the HANDLER", 5, 1);
        rig.dueExit("FAULTED", Rig.FAULTED, 0, 2, 0, 0);
        rig.dueReg("EVA stays", Rig.EVA, 1);
        rig.dueReg("PC stays", Rig.PC, SPARE);
        rig.dueFault("the last FAULT", 64, 2);
        rig.dueReg("HANDLES", Rig.HANDLES, 1);
    }

    private static void goingBack() {
        Rig rig = new Rig(16);
        rig.write(0, Rig.trap(1), Rig.trap(2), Rig.set(5));
        rig.write(SPARE, Rig.BACK);
        rig.set(Rig.HANDLER, SPARE);
        rig.set(Rig.MODE, 1);
        rig.dueRun("there and back", 2, 2);
        rig.dueReg("PC is EPC", Rig.PC, 1);
        rig.dueReg("MODE is EMODE", Rig.MODE, 1);
        rig.dueReg("HANDLES no longer", Rig.HANDLES, 0);
        rig.dueRun("again", 3, 3);
        rig.dueReg("A", Rig.A, 5);
        rig = ran(1, Rig.BACK);
        rig.dueReg("back without a FAULT", Rig.PC, 0);
        rig.set(Rig.EPC, 4000);
        rig.set(Rig.EMODE, 1);
        rig.dueRun("back to what was set", 1, 1);
        rig.dueReg("PC", Rig.PC, 4000);
        rig.dueReg("MODE", Rig.MODE, 1);
    }

    private static void controlRegisters() {
        Rig rig = new Rig(16);
        rig.write(0, 6, 7, 9, 10, 14, 16, 11, 8);
        rig.set(Rig.A, 0x7FFF);
        rig.dueRun("registers", 6, 6);
        rig.dueReg("6", Rig.ROOT, 255);
        rig.dueReg("7", Rig.ASID, 3);
        rig.dueReg("9", Rig.HANDLER, 4095);
        rig.dueReg("10", Rig.EPC, 4095);
        rig.dueReg("14", Rig.X, 0x7FFF);
        rig.dueReg("16", Rig.EMODE, 1);
        rig.dueReg("A stays", Rig.A, 0x7FFF);
        rig.dueRun("11", 1, 1);
        rig.dueReg("11", Rig.A, 4095);
        rig.set(Rig.A, 0xFFF6);
        rig.dueRun("8", 1, 1);
        rig.dueReg("8", Rig.BITS, 2);
        rig = new Rig(16);
        rig.write(0, Rig.trap(300), 0, 0, 0, 12, 13, 15, 16);
        rig.set(Rig.HANDLER, 4);
        rig.set(Rig.X, 500);
        rig.dueRun("12", 2, 2);
        rig.dueReg("12", Rig.A, 64);
        rig.dueRun("13", 1, 1);
        rig.dueReg("13", Rig.A, 300);
        rig.dueRun("15", 1, 1);
        rig.dueReg("15", Rig.A, 500);
        rig.set(Rig.EMODE, 1);
        rig.dueRun("16", 1, 1);
        rig.dueReg("16", Rig.EMODE, 0);
        rig.dueReg("PC", Rig.PC, 8);
    }

    /** Places for pages 0 (the program's), 1 and, GLOBAL, 3, and one of ASID 1. */
    private static Rig placed(int... words) {
        Rig rig = paged(words);
        rig.write(32, Rig.to(0, 7), Rig.to(4, 7), 0, Rig.to(5, 7 | Rig.GLOBAL));
        rig.dueAccess("place 0", Rig.READ, 16, 0, 0);
        rig.dueAccess("place 1", Rig.READ, 48, 0, 0);
        rig.set(Rig.ASID, 1);
        rig.dueAccess("place 2", Rig.READ, 16, 0, 0);
        rig.set(Rig.ASID, 0);
        rig.dueAccess("place 3", Rig.FETCH, 0, 0, words[0]);
        return rig;
    }

    private static void duePlaces(String when, Rig rig, int... pages) {
        for (int i = 0; i < pages.length; i++) {
            Check.due(when + ": place " + i, rig.host.aside(rig.cpu, i, 0), pages[i]);
        }
    }

    private static void controlFlushes() {
        Rig rig = placed(Rig.FLUSH_ALL);
        rig.dueRun("2", 1, 1);
        duePlaces("2", rig, -1, -1, -1, -1, -1);
        rig = placed(Rig.FLUSH_OWN);
        rig.dueRun("3", 1, 1);
        duePlaces("3", rig, -1, 3, 1, -1, -1);
        rig = placed(Rig.FLUSH_AT_A);
        rig.set(Rig.A, 31);
        rig.dueRun("4", 1, 1);
        duePlaces("4", rig, -1, 3, 1, 0, -1);
        rig = placed(Rig.FLUSH_AT_A);
        rig.set(Rig.A, 4096 + 31);
        rig.dueRun("4 for what is no address", 1, 1);
        duePlaces("4 for what is no address", rig, 1, 3, 1, 0, -1);
        rig = placed(5);
        rig.set(Rig.A, 256 + 7);
        rig.dueRun("5", 1, 1);
        rig.dueReg("5", Rig.ROOT, 7);
        duePlaces("5", rig, -1, 3, 1, -1, -1);
        rig = placed(6);
        rig.set(Rig.A, 65535);
        rig.dueRun("6", 1, 1);
        rig.dueReg("6", Rig.ROOT, 255);
        duePlaces("6", rig, 1, 3, 1, 0, -1);
        rig = placed(7);
        rig.set(Rig.A, 6);
        rig.dueRun("7", 1, 1);
        rig.dueReg("7", Rig.ASID, 2);
        duePlaces("7", rig, 1, 3, 1, 0, -1);
    }

    private static void pagingSwitchedByProgram() {
        Rig rig = new Rig(16);
        rig.write(0, Rig.set(1), 6, 8, Rig.set(11));
        rig.write(16, Rig.to(2, 7));
        rig.write(32, Rig.to(3, 7));
        rig.write(3 * 16, 0, 0, 0, Rig.set(22));
        rig.dueRun("PAGING binds at the next FETCH", 4, 4);
        rig.dueReg("A", Rig.A, 22);
    }

    private static void givingPages() {
        Rig rig = new Rig(40);
        NestedPager host = rig.host;
        rig.write(0, Rig.call(1), Rig.jump(0));
        rig.write(3 * 16, 1, 2, 3, 4);
        rig.write(4 * 16, 1, 2, 3, 4);
        host.deny(0, 3, 5);
        host.deny(0, 4, 6);
        host.swap(0, 4);
        int frames = host.host(0);
        dueGive(rig, 256 + 3, 0);
        Check.due("GIVEN, DENIED stays", host.entry(0, 3), 96 + 5);
        Check.due("its frame is FREE", host.host(0), frames + 1);
        Check.due("its word", host.peek(0, 48), 0);
        dueGive(rig, 3, 65535);
        dueGive(rig, 4, 0);
        Check.due("a SWAPPED one", host.entry(0, 4), 96 + 6);
        Check.due("its SLOT is free", host.host(1), 64);
        dueGive(rig, 5, 0);
        Check.due("a FRESH one", host.entry(0, 5), 96);
        frames = host.host(0);
        dueGive(rig, 39, 0);
        Check.due("its TABLE comes", host.host(0), frames - 1);
        dueGive(rig, 40, 65535);
        dueGive(rig, 240, 65535);
        dueGive(rig, 255, 65535);
        Check.due("GIVEN", host.count(0, 4), 4);
        rig.dueAccess("a GIVEN page", Rig.WRITE, 5 * 16 + 1, 0, NestedPager.EXIT);
        rig.dueExit("a GIVEN page", Rig.GIVEN, 5 * 16 + 1, 5 * 16 + 1, 1, 0);
        rig.dueAccess("DENIED goes first", Rig.READ, 3 * 16, 0, NestedPager.EXIT);
        rig.dueExit("DENIED goes first", Rig.DENIED, 48, 48, 0, 0);
        Check.due("deny", host.deny(0, 5, 7), 0);
        Check.due("stays GIVEN", host.entry(0, 5), 96 + 7);
        Check.badState("swap of a GIVEN one", () -> host.swap(0, 5));
        Check.badState("move of a GIVEN one", () -> host.move(0, 5));
        Check.due("harvest", host.harvest(0), 1);
        Check.due("the program's page alone", host.dirty(0), 0);
        dueGive(rig, 0, 0);
        rig.dueRun("the program gave itself", 1, 0);
        rig.dueExit("GIVEN", Rig.GIVEN, 1, 1, 2, 0);
    }

    private static void dueGive(Rig rig, int a, int want) {
        rig.set(Rig.A, a);
        rig.set(Rig.PC, 0);
        rig.dueRun("call for " + a, 1, 1);
        rig.dueReg("call for " + a, Rig.A, want);
        rig.dueReg("call for " + a, Rig.PC, 1);
    }

    private static void takingPagesBack() {
        Rig rig = new Rig(40);
        NestedPager host = rig.host;
        rig.write(0, Rig.call(1));
        rig.write(3 * 16, 1, 2, 3, 4);
        host.deny(0, 3, 4);
        dueGive(rig, 3, 0);
        rig.write(0, Rig.call(2));
        dueGive(rig, 4, 65535);
        dueGive(rig, 0, 65535);
        dueGive(rig, 39, 65535);
        dueGive(rig, 40, 65535);
        dueGive(rig, 241, 65535);
        Check.due("no TABLE came", host.frame(0, 2), 0);
        dueGive(rig, 256 + 3, 0);
        Check.due("FRESH, DENIED stays", host.entry(0, 3), 4);
        dueGive(rig, 3, 65535);
        int demands = host.count(0, 5);
        rig.dueAccess("its words are 0", Rig.READ, 3 * 16 + 1, 0, 0);
        Check.due("a DEMAND", host.count(0, 5), demands + 1);
        Check.due("GIVEN", host.count(0, 4), 0);
    }

    private static void otherCalls() {
        for (int t : new int[] {0, 7, 4095}) {
            ran(1, Rig.call(t)).dueReg("call " + t, Rig.A, 65535);
        }
        Rig rig = new Rig(16);
        rig.write(0, Rig.call(3), Rig.call(6), Rig.call(6));
        rig.host.target(0, 128);
        rig.dueRun("3", 1, 1);
        rig.dueReg("3", Rig.A, 128);
        rig.dueAccess("an EVENT", Rig.WRITE, Rig.POST, 5, 0);
        rig.dueAccess("an EVENT", Rig.WRITE, Rig.POST, 5, 0);
        rig.dueRun("6", 1, 1);
        rig.dueReg("6", Rig.A, 2);
        rig.dueReg("none then", Rig.EVENTS, 0);
        rig.dueRun("6", 1, 1);
        rig.dueReg("6", Rig.A, 0);
    }

    private static void callsFlushAll() {
        Rig rig = placed(Rig.call(4));
        NestedPager host = rig.host;
        int second = host.vcpu(0);
        host.guest(16);
        int stranger = host.vcpu(1);
        host.poke(1, 16, Rig.to(2, 7), 0, 0, 0);
        host.poke(1, 32, Rig.to(3, 7), 0, 0, 0);
        for (int other : new int[] {second, stranger}) {
            host.set(other, Rig.ROOT, 1);
            host.set(other, Rig.BITS, 1);
            host.access(other, 0, 0, 0);
            Check.due("a place", host.aside(other, 0, 0), 0);
        }
        rig.dueRun("4", 1, 1);
        rig.dueReg("4", Rig.A, 2);
        duePlaces("4", rig, -1, -1, -1, -1, -1);
        Check.due("the second's", host.aside(second, 0, 0), -1);
        Check.due("another guest's stays", host.aside(stranger, 0, 0), 0);
    }

    private static void callsSendEvents() {
        Rig rig = new Rig(16);
        NestedPager host = rig.host;
        host.guest(1);
        int stranger = host.vcpu(1);
        int second = host.vcpu(0);
        rig.write(0, Rig.call(5));
        dueGive(rig, second, 0);
        Check.due("EVENTS", host.get(second, Rig.EVENTS), 1);
        dueGive(rig, rig.cpu, 0);
        rig.dueReg("to itself", Rig.EVENTS, 1);
        dueGive(rig, stranger, 65535);
        Check.due("another guest's", host.get(stranger, Rig.EVENTS), 0);
        dueGive(rig, 3, 65535);
        dueGive(rig, 8, 65535);
        dueGive(rig, 256, 65535);
        dueGive(rig, 65535, 65535);
        rig.dueReg("none more", Rig.EVENTS, 1);
    }

    private static void settingRegisters() {
        Rig rig = new Rig(16);
        int[] highest = {65535, 65535, 4095, 1, 3, 255, 3, 4095, 4095, 1};
        for (int what = 0; what < 10; what++) {
            rig.set(what, highest[what]);
            rig.dueReg("set", what, highest[what]);
        }
        for (int what = 0; what < 10; what++) {
            rig.dueReg("each is another", what, highest[what]);
            rig.set(what, 0);
            rig.dueReg("set", what, 0);
        }
        for (int what = 10; what < 19; what++) {
            rig.dueReg("no other changes", what, 0);
        }
        int second = rig.host.vcpu(0);
        rig.host.set(second, 0, 9);
        rig.dueReg("each VCPU has its own", Rig.A, 0);
        Check.due("each VCPU has its own", rig.host.get(second, 0), 9);
        Check.badState("no VCPU", () -> rig.host.get(7, 0));
        Check.badState("no VCPU", () -> rig.host.exit(7, 0));
    }
}
