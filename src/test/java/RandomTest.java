/** Long runs of calls by fixed seeds: nothing but the document's exceptions, and a state that fits together. */
final class RandomTest {
    private static final int RUNS = 400;
    private static final int CALLS = 500;

    private final NestedPager host = new NestedPager();
    private long seed;

    private RandomTest(long seed) {
        this.seed = seed;
    }

    public static void main(String[] args) {
        for (int run = 0; run < RUNS; run++) {
            new RandomTest(run * 7919L + 1).tryRun(run);
        }
        Check.end();
    }

    private void tryRun(int run) {
        host.guest(1 + below(128));
        host.vcpu(0);
        for (int call = 0; call < CALLS; call++) {
            try {
                anyCall();
            } catch (IllegalArgumentException | IllegalStateException e) {
                Check.holds("run " + run + " call " + call + " throws as told",
                    e.getClass() == IllegalArgumentException.class || e.getClass() == IllegalStateException.class);
            } catch (RuntimeException e) {
                Check.holds("run " + run + " call " + call + " threw " + e, false);
                return;
            }
            if (call % 50 == 49) {
                fitsTogether("run " + run + " call " + call);
            }
        }
    }

    private int below(int n) {
        seed = seed * 6364136223846793005L + 1442695040888963407L;
        return (int) ((seed >>> 33) % n);
    }

    private int word() {
        switch (below(4)) {
            case 0: return below(65536);
            case 1: return below(16) * 256 + 7 + below(32) * 8;
            case 2: return below(17);
            default: return below(16) * 4096 + (below(3) == 0 ? 3840 + below(64) : below(256));
        }
    }

    private int address() {
        return below(8) == 0 ? 3840 + below(64) : below(below(2) == 0 ? 256 : 4096);
    }

    private void anyCall() {
        int guest = below(20) == 0 ? below(6) - 1 : below(2);
        int vcpu = below(20) == 0 ? below(10) - 1 : below(3);
        int page = below(3) == 0 ? below(130) : below(20);
        switch (below(26)) {
            case 0: host.guest(below(20) == 0 ? below(200) : 60 + below(69)); break;
            case 1: if (below(40) == 0) { host.destroy(guest); } break;
            case 2: host.vcpu(guest); break;
            case 3: case 4: {
                int what = below(10);
                int[] limit = {65536, 65536, 256, 2, 4, 16, 4, 256, 4096, 2};
                host.set(vcpu, what, below(limit[what]) - (below(30) == 0 ? 1 : 0));
                break;
            }
            case 5: host.get(vcpu, below(20)); break;
            case 6: case 7: case 8: case 9: host.access(vcpu, below(3), address(), word()); break;
            case 10: case 11: case 12: host.run(vcpu, 1 + below(60)); break;
            case 13: host.exit(vcpu, below(6)); break;
            case 14: host.flush(vcpu, below(3), address()); break;
            case 15: host.aside(vcpu, below(8), below(4)); break;
            case 16: host.deny(guest, page, below(3) == 0 ? below(8) : 0); break;
            case 17: host.swap(guest, page); break;
            case 18: host.move(guest, page); break;
            case 19: host.target(guest, below(129)); break;
            case 20: host.harvest(guest); break;
            default: host.poke(guest, page * 16 + below(4) * 4, word(), word(), word(), word()); break;
        }
    }

    /** Frames, entries, slots and counts tell the same. */
    private void fitsTogether(String when) {
        int free = 0;
        int slots = 0;
        for (int frame = 0; frame < 128; frame++) {
            int role = host.owner(frame, 0);
            free += role == 0 ? 1 : 0;
            Check.holds(when + ": FREE frames are nobody's",
                (role == 0) == (host.owner(frame, 1) == -1) && (role == 0) == (host.owner(frame, 2) == -1));
            boolean zeros = true;
            for (int i = 0; i < 16; i++) {
                zeros &= host.frame(frame, i) == 0;
            }
            Check.holds(when + ": FREE frames are 0", role != 0 || zeros);
            if (role == 2) {
                int entry = host.entry(host.owner(frame, 1), host.owner(frame, 2));
                Check.due(when + ": a PAGE's ENTRY", entry & (96 + 65280), 32 + frame * 256);
            }
        }
        Check.due(when + ": FREE frames", host.host(0), free);
        boolean[] used = new boolean[64];
        for (int guest = 0; guest < 4; guest++) {
            slots += guestFits(when, guest, used);
        }
        Check.due(when + ": free SLOTS", host.host(1), 64 - slots);
        Check.holds(when + ": THE HAND", host.host(2) >= 0 && host.host(2) < 128);
    }

    private int guestFits(String when, int guest, boolean[] used) {
        int ram;
        try {
            ram = host.count(guest, 0);
        } catch (IllegalStateException e) {
            return 0;
        }
        int[] kinds = new int[4];
        for (int page = 0; page < 128; page++) {
            int entry = host.entry(guest, page);
            int kind = entry / 32 % 4;
            kinds[kind]++;
            Check.holds(when + ": below RAM", page < ram || entry == 0);
            Check.holds(when + ": bit 7 is 0", (entry & 128) == 0);
            if (kind == 0 || kind == 3) {
                Check.holds(when + ": no frame, ACCESSED, DIRTY", (entry & ~(96 + 7)) == 0);
            }
            if (kind == 1) {
                Check.due(when + ": its frame's page", host.owner(entry / 256, 2), page);
                Check.due(when + ": its frame's guest", host.owner(entry / 256, 1), guest);
            }
            if (kind == 2) {
                Check.holds(when + ": a SLOT of its own", !used[entry / 256] && (entry & 8) == 0);
                used[entry / 256] = true;
            }
        }
        for (int kind = 1; kind < 4; kind++) {
            Check.due(when + ": count(" + (kind + 1) + ")", host.count(guest, kind + 1), kinds[kind]);
        }
        return kinds[2];
    }
}
