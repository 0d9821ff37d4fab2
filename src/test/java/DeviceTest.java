/** The devices, TICKS and EVENTS (Terms; promises 7, 23, 24). */
final class DeviceTest {
    private DeviceTest() {
    }

    public static void main(String[] args) {
        console();
        consoleKeepsTwoHundred();
        consoleCountsFarther();
        clockTicks();
        alarm();
        alarmIsOfTheGuest();
        diskLoadsAndStores();
        diskTellsReasons();
        mail();
        mailEvents();
        eventsUpTo255();
        otherWords();
        Check.end();
    }

    private static void console() {
        Rig rig = new Rig(1);
        rig.dueAccess("none yet", Rig.READ, Rig.CONSOLE, 0, 0);
        rig.dueAccess("print", Rig.WRITE, Rig.CONSOLE, 0x1234, 0);
        rig.dueAccess("print", Rig.WRITE, Rig.CONSOLE, 255, 0);
        rig.dueAccess("how many", Rig.READ, Rig.CONSOLE, 0, 2);
        Check.due("lowest byte", rig.host.printed(0, 0), 0x34);
        Check.due("the next", rig.host.printed(0, 1), 255);
        Check.due("no more", rig.host.printed(0, 2), -1);
        Check.due("count", rig.host.count(0, 9), 2);
        Check.badState("no guest", () -> rig.host.printed(1, 0));
        rig.host.guest(1);
        Check.due("another guest's", rig.host.printed(1, 0), -1);
        rig.dueAccess("DENIED is of memory alone", Rig.FETCH, Rig.CONSOLE, 0, NestedPager.EXIT);
    }

    /** A program that prints for ever. */
    private static Rig printer() {
        Rig rig = new Rig(1);
        rig.write(0, Rig.store(Rig.CONSOLE), Rig.op(3, 4), Rig.jump(0), 0, 1);
        return rig;
    }

    private static void consoleKeepsTwoHundred() {
        Rig rig = printer();
        rig.dueRun("199 times", 199 * 3, 199 * 3);
        Check.due("not yet", rig.host.printed(0, 199), -1);
        rig.dueRun("once more", 1, 1);
        Check.due("the last kept", rig.host.printed(0, 199), 199);
        rig.dueRun("twice more", 6, 6);
        Check.due("not kept", rig.host.printed(0, 200), -1);
        Check.due("the first stays", rig.host.printed(0, 0), 0);
        Check.due("the last stays", rig.host.printed(0, 199), 199);
        Check.due("all are counted", rig.host.count(0, 9), 202);
    }

    private static void consoleCountsFarther() {
        Rig rig = new Rig(1);
        rig.write(0, Rig.store(Rig.CONSOLE), Rig.store(Rig.CONSOLE), Rig.store(Rig.CONSOLE), Rig.jump(0));
        for (int i = 0; i < 87; i++) {
            rig.dueRun("print", 1000, 1000);
        }
        Check.due("count", rig.host.count(0, 9), 65250);
        rig.dueAccess("not yet at most", Rig.READ, Rig.CONSOLE, 0, 65250);
        Check.due("TICKS", rig.host.count(0, 8), 87001);
        rig.dueAccess("TICKS modulo 65536", Rig.READ, Rig.CLOCK, 0, 87002 - 65536);
        rig.dueRun("print", 380, 380);
        rig.dueAccess("the last number", Rig.READ, Rig.CONSOLE, 0, 65535);
        rig.dueRun("print", 1000, 1000);
        rig.dueAccess("at most", Rig.READ, Rig.CONSOLE, 0, 65535);
        Check.due("count tells all", rig.host.count(0, 9), 66285);
    }

    private static void clockTicks() {
        Rig rig = new Rig(2);
        rig.dueAccess("this one counts", Rig.READ, Rig.CLOCK, 0, 1);
        rig.dueAccess("an EXIT", Rig.READ, 500, 0, NestedPager.EXIT);
        rig.set(Rig.BITS, 1);
        rig.dueAccess("a FAULT", Rig.READ, 500, 0, NestedPager.FAULT);
        rig.set(Rig.BITS, 0);
        Check.badArgument("one that throws", () -> rig.access(0, 0, 65536));
        Check.due("TICKS", rig.host.count(0, 8), 3);
        rig.write(0, Rig.load(Rig.CLOCK), Rig.HALT);
        rig.dueRun("a program", 10, 2);
        rig.dueReg("A", Rig.A, 4);
        Check.due("TICKS", rig.host.count(0, 8), 5);
        rig.dueRun("HALTED tries nothing", 10, 0);
        Check.due("TICKS", rig.host.count(0, 8), 5);
        rig.set(Rig.PC, 500);
        rig.dueAccess("mail for an EVENT", Rig.WRITE, Rig.POST, 0, 0);
        rig.dueRun("a step tried", 10, 0);
        Check.due("TICKS", rig.host.count(0, 8), 7);
        rig.host.guest(1);
        Check.due("another guest's", rig.host.count(1, 8), 0);
    }

    private static void alarm() {
        Rig rig = new Rig(2);
        rig.dueAccess("set", Rig.WRITE, Rig.CLOCK + 1, 3, 0);
        rig.dueAccess("two left", Rig.READ, Rig.CLOCK + 1, 0, 2);
        rig.dueAccess("one left", Rig.READ, Rig.CLOCK + 1, 0, 1);
        rig.dueReg("not yet", Rig.EVENTS, 0);
        rig.dueAccess("none", Rig.READ, Rig.CLOCK + 1, 0, 0);
        rig.dueReg("an EVENT", Rig.EVENTS, 1);
        rig.dueAccess("none", Rig.READ, Rig.CLOCK + 1, 0, 0);
        rig.dueReg("one alone", Rig.EVENTS, 1);
        rig.dueAccess("set", Rig.WRITE, Rig.CLOCK + 1, 1, 0);
        rig.dueAccess("first of all in the TICK", Rig.WRITE, Rig.CLOCK + 1, 65535, 0);
        rig.dueReg("two", Rig.EVENTS, 2);
        rig.dueAccess("far away", Rig.READ, Rig.CLOCK + 1, 0, 65534);
        rig.dueAccess("set to none", Rig.WRITE, Rig.CLOCK + 1, 0, 0);
        rig.dueAccess("none", Rig.READ, Rig.CLOCK + 1, 0, 0);
        rig.dueReg("none came", Rig.EVENTS, 2);
    }

    private static void alarmIsOfTheGuest() {
        Rig rig = new Rig(2);
        NestedPager host = rig.host;
        int second = host.vcpu(0);
        host.guest(2);
        int stranger = host.vcpu(1);
        rig.dueAccess("set by the first", Rig.WRITE, Rig.CLOCK + 1, 3, 0);
        host.access(stranger, 0, 0, 0);
        Check.due("the second sees it", host.access(second, 0, Rig.CLOCK + 1, 0), 2);
        Check.due("another guest does not", host.access(stranger, 0, Rig.CLOCK + 1, 0), 0);
        host.access(second, 0, 0, 0);
        host.access(second, 0, 0, 0);
        rig.dueReg("by the second's TICKS", Rig.EVENTS, 1);
        Check.due("the second gets none", host.get(second, Rig.EVENTS), 0);
        rig.dueAccess("set by the first", Rig.WRITE, Rig.CLOCK + 1, 5, 0);
        Check.due("then by the second", host.access(second, 1, Rig.CLOCK + 1, 1), 0);
        rig.dueAccess("a TICK", Rig.READ, 0, 0, 0);
        rig.dueReg("the first gets none", Rig.EVENTS, 1);
        Check.due("the second does", host.get(second, Rig.EVENTS), 1);
        // A processor that HALTED is woken by another's TICKS.
        rig.set(Rig.PC, 3);
        host.access(second, 1, Rig.CLOCK + 1, 2);
        Check.due("HALT", host.run(second, 5), 1);
        Check.due("its EVENT is kept", host.get(second, Rig.EVENTS), 1);
    }

    private static void diskLoadsAndStores() {
        Rig rig = new Rig(20);
        NestedPager host = rig.host;
        rig.write(3 * 16, 31, 32, 33, 34);
        rig.write(3 * 16 + 12, 0, 0, 0, 65535);
        host.harvest(0);
        rig.dueAccess("sector, modulo 16", Rig.WRITE, Rig.DISK, 65535, 0);
        rig.dueAccess("is 15", Rig.READ, Rig.DISK, 0, 15);
        rig.dueAccess("page, modulo 256", Rig.WRITE, Rig.DISK + 1, 256 + 3, 0);
        rig.dueAccess("is 3", Rig.READ, Rig.DISK + 1, 0, 3);
        rig.dueAccess("store", Rig.WRITE, Rig.DISK + 2, 2, 0);
        rig.dueAccess("done", Rig.READ, Rig.DISK + 3, 0, 0);
        Check.due("ACCESSED, not DIRTY", host.entry(0, 3) & 127, 32 + 8);
        rig.dueAccess("page 4", Rig.WRITE, Rig.DISK + 1, 4, 0);
        rig.dueAccess("load", Rig.WRITE, Rig.DISK + 2, 1, 0);
        Check.due("its first word", host.peek(0, 4 * 16), 31);
        Check.due("its last word", host.peek(0, 4 * 16 + 15), 65535);
        Check.due("DIRTY and ACCESSED", host.entry(0, 4) & 127, 32 + 16 + 8);
        rig.dueAccess("another sector", Rig.WRITE, Rig.DISK, 14, 0);
        rig.dueAccess("load", Rig.WRITE, Rig.DISK + 2, 1, 0);
        Check.due("is 0", host.peek(0, 4 * 16), 0);
        Check.due("is 0", host.peek(0, 4 * 16 + 15), 0);
        host.swap(0, 3);
        rig.dueAccess("page 3", Rig.WRITE, Rig.DISK + 1, 3, 0);
        rig.dueAccess("store", Rig.WRITE, Rig.DISK + 2, 2, 0);
        Check.due("a SWAPIN", host.count(0, 6), 1);
        host.guest(3);
        int other = host.vcpu(1);
        host.access(other, 1, Rig.DISK, 14);
        host.access(other, 1, Rig.DISK + 2, 1);
        Check.due("another guest's DISK", host.peek(1, 0), 0);
        rig.dueExit("no EXIT", 0, 0, 0, 0, 0);
    }

    private static void diskTellsReasons() {
        Rig rig = new Rig(20);
        NestedPager host = rig.host;
        rig.write(0, Rig.set(7), Rig.call(1), Rig.HALT);
        rig.dueRun("page 7 is GIVEN", 3, 3);
        host.deny(0, 5, 1);
        host.deny(0, 6, 2);
        int[] page = {5, 6, 5, 6, 7, 7, 20, 239, 244, 255, 240, 243, 19};
        int[] command = {2, 1, 1, 2, 1, 2, 1, 2, 1, 2, 1, 2, 1};
        int[] want = {2, 2, 0, 0, 3, 3, 1, 1, 1, 1, 5, 5, 0};
        for (int i = 0; i < page.length; i++) {
            rig.dueAccess("page", Rig.WRITE, Rig.DISK + 1, page[i], 0);
            rig.dueAccess("command is no EXIT", Rig.WRITE, Rig.DISK + 2, command[i], 0);
            rig.dueAccess("of page " + page[i], Rig.READ, Rig.DISK + 3, 0, want[i]);
        }
        rig.dueExit("none of the VCPU", 0, 0, 0, 0, 0);
        rig.dueAccess("page", Rig.WRITE, Rig.DISK + 1, 240, 0);
        rig.dueAccess("load", Rig.WRITE, Rig.DISK + 2, 1, 0);
        rig.dueAccess("page", Rig.WRITE, Rig.DISK + 1, 1, 0);
        for (int command2 : new int[] {0, 3, 257, 65535}) {
            rig.dueAccess("no command", Rig.WRITE, Rig.DISK + 2, command2, 0);
        }
        rig.dueAccess("the last one's", Rig.READ, Rig.DISK + 3, 0, 5);
        rig.dueAccess("word 2 is READ as 0", Rig.READ, Rig.DISK + 2, 0, 0);
        rig.dueAccess("word 3 WRITTEN", Rig.WRITE, Rig.DISK + 3, 9, 0);
        rig.dueAccess("is ignored", Rig.READ, Rig.DISK + 3, 0, 5);
        Check.due("page 1 is FRESH", host.entry(0, 1), 0);
    }

    private static void mail() {
        Rig rig = new Rig(2);
        NestedPager host = rig.host;
        host.guest(2);
        int other = host.vcpu(1);
        Check.due("none yet", host.access(other, 0, Rig.POST + 4, 0), 0);
        for (int i = 0; i < 8; i++) {
            rig.dueAccess("mail", Rig.WRITE, Rig.POST + 1, 100 + i, 0);
        }
        Check.due("MAILS", host.count(1, 10), 8);
        Check.due("EVENTS", host.get(other, Rig.EVENTS), 8);
        rig.dueAccess("a ninth", Rig.WRITE, Rig.POST + 1, 200, 0);
        Check.due("does not come", host.count(1, 10), 8);
        Check.due("nor its EVENT", host.get(other, Rig.EVENTS), 8);
        rig.dueAccess("the sender has none", Rig.READ, Rig.POST + 5, 0, 0);
        Check.due("it has", host.access(other, 0, Rig.POST + 5, 0), 8);
        for (int i = 0; i < 3; i++) {
            Check.due("the oldest", host.access(other, 0, Rig.POST + 4, 0), 100 + i);
        }
        Check.due("it has", host.access(other, 0, Rig.POST + 5, 0), 5);
        Check.due("to itself", host.access(other, 1, Rig.POST + 1, 300), 0);
        for (int i = 3; i < 8; i++) {
            Check.due("the oldest", host.access(other, 0, Rig.POST + 4, 0), 100 + i);
        }
        Check.due("the last", host.access(other, 0, Rig.POST + 4, 0), 300);
        Check.due("none", host.access(other, 0, Rig.POST + 4, 0), 0);
        rig.dueAccess("to a guest that is not there", Rig.WRITE, Rig.POST + 3, 1, 0);
        rig.dueAccess("a 0", Rig.WRITE, Rig.POST, 0, 0);
        rig.dueAccess("is a MAIL too", Rig.READ, Rig.POST + 5, 0, 1);
        for (int word = 0; word < 4; word++) {
            rig.dueAccess("READ as 0", Rig.READ, Rig.POST + word, 0, 0);
        }
        rig.dueAccess("a FETCH", Rig.FETCH, Rig.POST + 4, 0, NestedPager.EXIT);
        Check.due("takes none", host.count(0, 10), 1);
        host.guest(1);
        host.guest(1);
        Check.due("a new guest has none", host.count(3, 10), 0);
    }

    private static void mailEvents() {
        Rig rig = new Rig(2);
        NestedPager host = rig.host;
        host.guest(2);
        int first = host.vcpu(1);
        int second = host.vcpu(1);
        rig.dueAccess("mail", Rig.WRITE, Rig.POST + 1, 1, 0);
        Check.due("each of its VCPUS", host.get(first, Rig.EVENTS), 1);
        Check.due("each of its VCPUS", host.get(second, Rig.EVENTS), 1);
        rig.dueReg("not the sender", Rig.EVENTS, 0);
    }

    private static void eventsUpTo255() {
        Rig rig = new Rig(2);
        // MAIL is sent to itself and taken, again and again.
        rig.write(0, Rig.store(Rig.POST), Rig.load(Rig.POST + 4), Rig.jump(0));
        rig.dueRun("254 times", 254 * 3, 254 * 3);
        rig.dueReg("EVENTS", Rig.EVENTS, 254);
        rig.dueRun("once more", 3, 3);
        rig.dueReg("EVENTS", Rig.EVENTS, 255);
        rig.dueRun("once more", 3, 3);
        rig.dueReg("EVENTS", Rig.EVENTS, 255);
    }

    private static void otherWords() {
        Rig rig = new Rig(2);
        int[] first = {1, 2, 4, 6};
        for (int device = 0; device < 4; device++) {
            for (int word = first[device]; word < 16; word++) {
                int at = (240 + device) * 16 + word;
                rig.dueAccess("WRITTEN", Rig.WRITE, at, 65535, 0);
                rig.dueAccess("is 0", Rig.READ, at, 0, 0);
            }
        }
        rig.dueAccess("word 4 WRITTEN", Rig.WRITE, Rig.POST + 4, 9, 0);
        rig.dueAccess("word 5 WRITTEN", Rig.WRITE, Rig.POST + 5, 9, 0);
        rig.dueAccess("word 0 of the clock WRITTEN", Rig.WRITE, Rig.CLOCK, 9, 0);
        Check.due("nothing printed", rig.host.count(0, 9), 0);
        Check.due("no MAILS", rig.host.count(0, 10), 0);
        Check.due("TICKS", rig.host.count(0, 8), 2 * (15 + 14 + 12 + 10) + 3);
        rig.dueReg("no EVENTS", Rig.EVENTS, 0);
    }
}
