import java.lang.reflect.InvocationTargetException;
import java.lang.reflect.Method;
import java.lang.reflect.Modifier;
import java.util.ArrayList;
import java.util.Comparator;
import java.util.List;
import java.util.Random;

/** Every method with rough arguments in states that random calls lead to: nothing is ever thrown, and what is refused changes nothing. */
public final class SpoonSetRough {
  private static final int[] ROUGH = {Integer.MIN_VALUE, Integer.MIN_VALUE + 1, -1000000, -10001, -257, -100, -10, -9, -3, -2, -1, 0, 1, 2, 3, 4, 5, 6, 7, 8, 9,
      10, 24, 25, 30, 31, 39, 40, 41, 59, 60, 61, 63, 64, 98, 99, 100, 255, 256, 299, 300, 301, 512, 999, 1000, 9999, 10000, 1000000, 1000001,
      Integer.MAX_VALUE - 1, Integer.MAX_VALUE};

  public static void main(String[] args) throws IllegalAccessException {
    List<Method> face = new ArrayList<>();
    for (Method m : SpoonSet.class.getDeclaredMethods()) if (Modifier.isPublic(m.getModifiers())) face.add(m);
    face.sort(Comparator.comparing(Method::getName));
    int thrown = 0;
    long calls = 0;
    for (int seed = 0; seed < 300 && thrown < 5; seed++) {
      Random random = new Random(seed);
      SpoonSet set = new SpoonSet();
      for (int i = 0; i < 2000 && thrown < 5; i++) {
        Method m = face.get(random.nextInt(face.size()));
        try {
          m.invoke(set, arguments(m, random));
        } catch (InvocationTargetException e) {
          thrown++;
          System.out.println("run " + seed + ", call " + i + " of " + m.getName() + " threw " + e.getCause());
        }
        calls++;
        if (i % 20 == 0) feedLaw(set, random);
      }
    }
    int changed = refusedCallsThatChange();
    System.out.println(calls + " rough calls, " + thrown + " threw, " + changed + " refused ones changed something");
    if (thrown + changed != 0) System.exit(1);
  }

  private static Object[] arguments(Method m, Random random) {
    Class<?>[] types = m.getParameterTypes();
    Object[] all = new Object[types.length];
    for (int i = 0; i < all.length; i++) {
      if (types[i] == boolean.class) all[i] = random.nextBoolean();
      else if (random.nextInt(10) == 0) all[i] = random.nextInt();
      else all[i] = random.nextInt(4) == 0 ? ROUGH[random.nextInt(ROUGH.length)] : random.nextInt(8);
    }
    return all;
  }

  private static void feedLaw(SpoonSet set, Random random) {
    String[] laws = {"fades top spoon-gives mouth;", "felt if deep#0 then 9999*9999 else -feels/0 end;", "diner 9;card 0 at 0;day 60;", "fades 0;felt strong*feels;"};
    String law = laws[random.nextInt(laws.length)];
    set.end(0);
    for (int i = 0; i < law.length(); i += 20) {
      int[] five = new int[5];
      for (int k = 0; k < 20; k++) five[k / 4] = five[k / 4] << 8 | (i + k < law.length() ? law.charAt(i + k) : ' ');
      set.feed(five[0], five[1], five[2], five[3], five[4]);
    }
    set.text();
    set.by(random.nextInt(5) - 1);
  }

  /** How many looks at an object differ behind calls that are all refused. */
  private static int refusedCallsThatChange() {
    SpoonSet set = new SpoonSet();
    for (int i = 1; i <= 3; i++) set.diner(i);
    set.feel(0, 1, 5);
    set.card(0, 2);
    set.eat(0, 1);
    set.day(3);
    set.feed(1, 2, 3, 4, 5);
    List<Integer> ahead = looks(set);
    for (int rough : ROUGH) {
      if (rough >= -1 && rough <= 9) continue;
      set.diner(rough);
      set.feel(rough, 1, 1);
      set.feel(0, rough, 1);
      set.feel(0, 1, Math.abs(rough) <= 9 ? 10 : rough);
      set.card(rough, 0);
      set.card(0, rough);
      set.end(Math.abs((long) rough) <= 20 ? 21 : rough);
      set.by(rough);
      set.eat(rough, 0);
      set.eat(0, rough);
      set.smith(rough);
      set.polish(rough);
      set.played(rough);
      set.years(rough < 0 || rough > 9999 ? rough : 0, rough < 0 || rough > 9999 ? 1 : 41);
      set.day(rough < 1 || rough > 60 ? rough : 0);
      set.clue(rough, 0);
      set.clue(0, rough);
      set.test(rough, true);
      set.house(rough, 0);
      set.house(0, rough);
      set.value(rough, 1, 1);
      set.value(0, rough < 0 || rough > 99 ? rough : -1, 1);
      set.said(rough, 0, 0);
      set.said(0, rough, 0);
      set.said(0, 0, Math.abs((long) rough) > 999 ? rough : 1000);
    }
    List<Integer> behind = looks(set);
    int changed = 0;
    for (int i = 0; i < ahead.size(); i++) if (!ahead.get(i).equals(behind.get(i))) changed++;
    return changed;
  }

  private static List<Integer> looks(SpoonSet set) {
    List<Integer> all = new ArrayList<>();
    for (int w = 0; w < 5; w++) all.add(set.is(w));
    for (int w = 0; w < 8; w++) all.add(set.about(w));
    for (int d = 0; d < 6; d++) for (int w = 0; w < 4; w++) all.add(set.of(d, w));
    for (int d = 0; d < 6; d++) for (int m = 0; m < 6; m++) all.add(set.feels(d, m));
    for (int s = 0; s < 8; s++) for (int i = 0; i < 5; i++) for (int w = 0; w < 3; w++) all.add(set.layer(s, i, w));
    for (int i = 0; i < 25; i++) for (int w = 0; w < 4; w++) all.add(set.book(i, w));
    for (int h = 0; h < 8; h++) all.add(set.goes(h, 1));
    for (int s = 0; s < 8; s++) all.add(set.game(1 << s));
    all.add(set.fault(0));
    all.add(set.fault(1));
    return all;
  }
}
