import java.lang.reflect.Array;
import java.lang.reflect.Field;
import java.lang.reflect.Method;
import java.lang.reflect.Modifier;
import java.util.LinkedHashMap;
import java.util.Map;

/**
 * isConsistent answers true for every sound chip, so its answers alone can't show that it looks. This
 * test looks inside: at the copies that it leaves behind, and at whether each number in them counts.
 */
public final class ConsistencyTest {
    private static int checks = 0;
    private static int wrong = 0;

    private ConsistencyTest() {
    }

    /** One number of a chip that can be read and changed. */
    private static final class Slot {
        final Object owner;
        final Field field;
        final int index;

        Slot(Object owner, Field field, int index) {
            this.owner = owner;
            this.field = field;
            this.index = index;
        }

        long get() throws ReflectiveOperationException {
            Object value = field == null ? Array.get(owner, index) : field.get(owner);
            return value instanceof Character ? (Character) value : ((Number) value).longValue();
        }

        void set(long value) throws ReflectiveOperationException {
            if (field == null) {
                Array.setInt(owner, index, (int) value);
            } else if (field.getType() == char.class) {
                field.setChar(owner, (char) value);
            } else if (field.getType() == long.class) {
                field.setLong(owner, value);
            } else {
                field.setInt(owner, (int) value);
            }
        }
    }

    private static void due(String what, Object got, Object want) {
        checks++;
        if (!got.equals(want)) {
            wrong++;
            System.out.println(what + " is " + got + ", due is " + want);
        }
    }

    private static Object inside(Object owner, String name) throws ReflectiveOperationException {
        Field field = owner.getClass().getDeclaredField(name);
        field.setAccessible(true);
        return field.get(owner);
    }

    /** All numbers that make a chip what it is: not the ticks of the last step, nor the unused places. */
    private static Map<String, Slot> slotsOf(Object chip) throws ReflectiveOperationException {
        Map<String, Slot> slots = new LinkedHashMap<>();
        addSlots(slots, "", chip);
        return slots;
    }

    private static void addSlots(Map<String, Slot> slots, String path, Object part)
            throws ReflectiveOperationException {
        for (Field field : part.getClass().getDeclaredFields()) {
            field.setAccessible(true);
            if (Modifier.isStatic(field.getModifiers()) || field.getName().equals("fresh")) {
                continue;
            }
            String name = path + "." + field.getName();
            Object value = field.get(part);
            if (field.getType().isPrimitive()) {
                slots.put(name, new Slot(part, field, 0));
            } else if (value instanceof int[]) {
                int used = path.endsWith(".begun") ? (Integer) inside(part, "size") : ((int[]) value).length;
                for (int i = 0; i < used; i++) {
                    slots.put(name + "[" + i + "]", new Slot(value, null, i));
                }
            } else {
                addSlots(slots, name, value);
            }
        }
    }

    private static void dueSame(String what, Object got, Object want) throws ReflectiveOperationException {
        Map<String, Slot> some = slotsOf(got);
        Map<String, Slot> others = slotsOf(want);
        due(what + ": the slots", some.keySet(), others.keySet());
        for (Map.Entry<String, Slot> entry : some.entrySet()) {
            Slot other = others.get(entry.getKey());
            if (other != null) {
                due(what + entry.getKey(), entry.getValue().get(), other.get());
            }
        }
    }

    /** A chip that slept, with a late arrival and a chained handler behind it. */
    private static Tickstation woken() {
        Tickstation chip = new Tickstation();
        chip.setSleep(1);
        chip.run(9);
        chip.setLine(5, 5, true);
        chip.setLine(6, 4, true);
        chip.request(5);
        chip.run(4);
        chip.request(6);
        chip.run(20);
        chip.setLine(5, 7, false);
        chip.setLine(6, 7, false);
        due("late", chip.late(), 1);
        due("chained", chip.chained(), 1);
        return chip;
    }

    /** No setting is as at first; there are over 200 edges, resets, and a row of some handlers. */
    private static Tickstation busy(int handlers, int beats) {
        Tickstation chip = woken();
        for (int i = 0; i < 4; i++) {
            chip.setTimer(i, 0, 1, 1, 'r');
            chip.setPin(i, 7 - i, 't');
            chip.start(i, true);
        }
        chip.setWatchdog(0, 90, 170);
        chip.run(400);
        for (int line = 0; line < 8; line++) {
            chip.setHandler(line, 20 + line, "npsxqqpf".charAt(line), line == 7 ? 0 : line % 3);
        }
        chip.setWatchdog(-1, 1, 2);
        for (int i = 0; i < 4; i++) {
            chip.start(i, true);
        }
        for (int i = 0; i < handlers; i++) {
            boolean rises = i / 8 % 2 == 0;
            chip.setLine(rises ? i % 8 : 7 - i % 8, rises ? 7 - i % 8 : 7, true);
            chip.run(5);
        }
        chip.setClock(1, 0, 5, true);
        chip.setClock(2, 1, 3, true);
        chip.setClock(3, 1, 64, false);
        chip.setTimer(1, 2, 9, 4, 'o');
        chip.setTimer(2, 3, 7, 7, 'r');
        chip.setTimer(3, 2, 2, 2, 'r');
        chip.link(3, 1);
        chip.setSleep(2);
        chip.setWatchdog(1, 3, 150);
        chip.run(beats);
        return chip;
    }

    private static void copiesGoOn(int handlers, int beats) throws ReflectiveOperationException {
        Tickstation asked = busy(handlers, beats);
        due("isConsistent", asked.isConsistent(), true);
        dueSame("the chip", inside(asked, "chip"), inside(busy(handlers, beats), "chip"));
        Tickstation gone = busy(handlers, beats);
        gone.run(300);
        dueSame("by events", inside(asked, "copyByEvents"), inside(gone, "chip"));
        dueSame("by beats", inside(asked, "copyByBeats"), inside(gone, "chip"));
    }

    private static void eachNumberCounts() throws ReflectiveOperationException {
        Tickstation asked = busy(48, 11);
        asked.isConsistent();
        Object some = inside(asked, "copyByEvents");
        Object others = inside(asked, "copyByBeats");
        Method isSameAs = some.getClass().getDeclaredMethod("isSameAs", some.getClass());
        isSameAs.setAccessible(true);
        for (Map.Entry<String, Slot> entry : slotsOf(some).entrySet()) {
            long before = entry.getValue().get();
            entry.getValue().set(before + 1);
            due("same with another " + entry.getKey(), isSameAs.invoke(some, others), false);
            entry.getValue().set(before);
        }
        due("same again", isSameAs.invoke(some, others), true);
    }

    /** A divider of 0, which no call can set, is counted otherwise by the two ways. */
    private static void unsoundChip() throws ReflectiveOperationException {
        Tickstation chip = new Tickstation();
        Object clocks = inside(inside(chip, "chip"), "clocks");
        ((int[]) inside(clocks, "divider"))[2] = 0;
        due("isConsistent of an unsound chip", chip.isConsistent(), false);
    }

    private static void lengthOfTheCheck() throws ReflectiveOperationException {
        Tickstation chip = new Tickstation();
        chip.run(7);
        chip.isConsistent();
        due("time of a copy", slotsOf(inside(chip, "copyByEvents")).get(".time").get(), 307L);
        due("time of a copy", slotsOf(inside(chip, "copyByBeats")).get(".time").get(), 307L);
    }

    public static void main(String[] args) throws ReflectiveOperationException {
        for (int beats = 1; beats < 30; beats++) {
            copiesGoOn(5, beats);
            copiesGoOn(48, beats);
        }
        eachNumberCounts();
        unsoundChip();
        lengthOfTheCheck();
        System.out.println(checks + " looks inside, " + wrong + " of them not as due");
        if (wrong != 0) {
            System.exit(1);
        }
    }
}
