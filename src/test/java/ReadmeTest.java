import java.io.IOException;
import java.lang.reflect.Method;
import java.lang.reflect.Modifier;
import java.nio.file.Files;
import java.nio.file.Path;

/** What README.md tells is so: its examples, and a row for every call and every test. */
final class ReadmeTest {
    private ReadmeTest() {
    }

    public static void main(String[] args) throws IOException {
        NestedPager host = new NestedPager();
        int guest = host.guest(16);
        Check.due("guest", guest, 0);
        int cpu = host.vcpu(guest);
        Check.due("vcpu", cpu, 0);
        guestThatPrints(host, guest, cpu);
        guestWithTables(host, guest, cpu);
        everyCallHasItsRow(Files.readString(Path.of("README.md")));
        Check.end();
    }

    private static void guestThatPrints(NestedPager host, int guest, int cpu) {
        Check.due("poke", host.poke(guest, 0, 0x9048, 0x2F00, 0x0000, 0), 0);
        Check.due("steps", host.run(cpu, 100), 3);
        Check.due("printed", host.printed(guest, 0), 72);
    }

    private static void guestWithTables(NestedPager host, int guest, int cpu) {
        Check.due("poke", host.poke(guest, 16, 2 * 256 + 7, 0, 0, 0), 0);
        Check.due("poke", host.poke(guest, 32, 0, 3 * 256 + 7, 0, 0), 0);
        Check.due("poke", host.poke(guest, 48, 4711, 0, 0, 0), 0);
        host.set(cpu, 5, 1);
        host.set(cpu, 4, 3);
        Check.due("READ by a WALK", host.access(cpu, 0, 16, 0), 4711);
        Check.due("the guest's page", host.aside(cpu, 0, 1), 3);
        Check.due("no entry", host.access(cpu, 0, 32, 0), NestedPager.FAULT);
        Check.due("the address of the last FAULT", host.get(cpu, 18), 32);
        Check.due("nothing was DENIED", host.deny(guest, 3, 1), 0);
        Check.due("it binds at once", host.access(cpu, 0, 16, 0), NestedPager.EXIT);
        Check.due("DENIED", host.exit(cpu, 0), 2);
    }

    private static void everyCallHasItsRow(String readme) throws IOException {
        for (Method m : NestedPager.class.getDeclaredMethods()) {
            if (Modifier.isPublic(m.getModifiers())) {
                Check.holds("a row of " + m.getName(), readme.contains("\n| `" + m.getName() + "("));
            }
        }
        try (var tests = Files.newDirectoryStream(Path.of("src/test/java"), "*Test.java")) {
            for (Path test : tests) {
                String name = test.getFileName().toString().replace(".java", "");
                Check.holds("a row of " + name, readme.contains("\n| `" + name + "` |"));
            }
        }
    }
}
