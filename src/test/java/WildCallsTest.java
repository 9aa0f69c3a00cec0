import java.lang.reflect.Method;
import java.util.ArrayList;
import java.util.Comparator;
import java.util.List;
import java.util.Random;

/** Any numbers in any state: no call may throw or fail to end, and none may make much in the room. */
public final class WildCallsTest {
    private static final long[] WILD = {Integer.MIN_VALUE, Integer.MIN_VALUE + 1, -1000, -2, -1, 0, 1, 2, 3, 4, 5, 6, 7, 9,
        10, 15, 16, 17, 31, 32, 33, 59, 60, 61, 64, 180, 255, 256, 399, 400, 1399, 1400, 1401, Integer.MAX_VALUE - 1,
        Integer.MAX_VALUE};
    private static final Check CHECK = new Check("WildCallsTest");

    public static void main(String[] args) throws Exception {
        wild();
        room();
        CHECK.finish();
    }

    private static String bigTown(Random random) {
        StringBuilder b = new StringBuilder();
        for (int i = 0; i < 16; i++) {
            b.append("house at ").append(random.nextInt(40)).append(' ').append(random.nextInt(40)).append(" rank ");
            b.append(random.nextInt(10)).append(" home sun 0 180;");
        }
        for (int i = 1; i < 16; i++) {
            b.append("know 0 ").append(i).append(';');
        }
        b.append("know 1 2;know 3 4;introduce 1;sent owes call within 9 if mine more 4;sent owes card within 9;");
        b.append("card owes card within 20 if debts times day plus 7 more mine minus theirs and known same 1;");
        return b.append("call owes dinner within 9;").toString();
    }

    private static void wild() throws Exception {
        List<Method> methods = new ArrayList<>();
        for (Method m : CardBowl.class.getMethods()) {
            if (m.getDeclaringClass() == CardBowl.class) {
                methods.add(m);
            }
        }
        // the order in which a class tells its methods is not the same everywhere
        methods.sort(Comparator.comparing(Method::getName));
        for (int run = 0; run < 300; run++) {
            Random random = new Random(7000 + run);
            CardBowl x = run % 3 == 0 ? new CardBowl() : Check.with(bigTown(random));
            for (int call = 0; call < 512; call++) {
                Method m = methods.get(random.nextInt(methods.size()));
                boolean often = m.getName().equals("does") && random.nextBoolean();
                Object[] numbers = new Object[m.getParameterCount()];
                for (int i = 0; i < numbers.length; i++) {
                    long v = random.nextInt(3) == 0 ? WILD[random.nextInt(WILD.length)] : random.nextInt(often ? 4 : 16);
                    numbers[i] = m.getParameterTypes()[i] == long.class ? (Object) (v << random.nextInt(40)) : (Object) (int) v;
                }
                if (m.getName().equals("town") && random.nextInt(4) > 0) {
                    continue;
                }
                m.invoke(x, numbers);
            }
        }
        CHECK.isTrue("no call threw", true);
    }

    /** Counts what 512 of the dearest calls make: the first of each may lay its rows, no other one may. */
    private static void room() {
        CardBowl x = Check.with(bigTown(new Random(1)));
        dearest(x, 8);
        com.sun.management.ThreadMXBean threads =
            (com.sun.management.ThreadMXBean) java.lang.management.ManagementFactory.getThreadMXBean();
        long id = Thread.currentThread().getId();
        long before = threads.getThreadAllocatedBytes(id);
        dearest(x, 512);
        long made = threads.getThreadAllocatedBytes(id) - before;
        CHECK.isTrue("512 rounds of calls make " + made + " bytes, some thousands at most", made < 20_000);
    }

    private static void dearest(CardBowl x, int times) {
        for (int i = 0; i < times; i++) {
            x.does(1 + i % 15, 0, i % 2);
            x.does(0, 1 + i % 15, 2);
            x.worth(0, x.count(2));
            x.over(0, x.count(2) + 1);
            x.fewest(0);
            x.lost(0);
            x.soon(1, 5);
            x.path(5, 1, 0);
            x.rings();
            x.drop(0);
            x.row(i % 4, i % 4, i % 61);
            x.done(i % 4);
            x.keep(i % 3);
            x.beside(i % 3);
            if (i % 5 == 4) {
                x.back(i % 3);
            }
            x.feed(i, i, i, i, i);
            x.town();
        }
    }
}
