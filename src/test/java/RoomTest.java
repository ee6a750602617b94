import com.sun.management.ThreadMXBean;
import java.lang.management.ManagementFactory;
import java.lang.reflect.InvocationTargetException;
import java.lang.reflect.Method;

/** No call throws, for any arguments in any state; and what the calls make is little. */
public final class RoomTest {
  private static final Due DUE = new Due();
  private static final int[] ODD_ONES = {
    Integer.MIN_VALUE, -100, -2, -1, 0, 1, 3, 6, 25, 40, 41, 99, 161, Integer.MAX_VALUE
  };

  public static void main(String[] args) throws IllegalAccessException {
    MiddleOfCourt bare = new MiddleOfCourt();
    nothingIsThrown(bare);
    MiddleOfCourt full = full();
    nothingIsThrown(full);
    longestTexts();
    littleIsMade();
    DUE.end("RoomTest");
  }

  private static MiddleOfCourt full() {
    MiddleOfCourt x = new MiddleOfCourt();
    for (int kind = 0; kind < 6; kind++) {
      x.stroke(kind, 9, kind * 4);
    }
    x.image();
    Due.sheet(x, 0, 0, 1, 2, 3);
    x.sheet(1, 0, 40);
    x.sheet(2, 1, 40);
    return x;
  }

  private static void nothingIsThrown(MiddleOfCourt x) throws IllegalAccessException {
    for (Method m : MiddleOfCourt.class.getMethods()) {
      if (m.getDeclaringClass() != MiddleOfCourt.class) {
        continue;
      }
      int n = m.getParameterCount();
      Object[] args = new Object[n];
      long all = 1;
      for (int i = 0; i < n; i++) {
        all *= ODD_ONES.length;
      }
      for (long k = 0; k < all; k += n == 5 ? 7 : 1) {
        long rest = k;
        for (int i = 0; i < n; i++) {
          args[i] = ODD_ONES[(int) (rest % ODD_ONES.length)];
          rest /= ODD_ONES.length;
        }
        if (!ends(m, x, args)) {
          DUE.is(m + " " + java.util.Arrays.toString(args) + " threw", 1, 0);
          return;
        }
      }
      DUE.is(m.getName(), 0, 0);
    }
  }

  private static boolean ends(Method m, MiddleOfCourt x, Object[] args) throws IllegalAccessException {
    try {
      m.invoke(x, args);
      return true;
    } catch (InvocationTargetException e) {
      return false;
    }
  }

  /** 160 bytes, as deep and as long as they can be. */
  private static void longestTexts() {
    String head = "flies ";
    String tail = ";steps 1;slips 1;";
    String[] pieces = {"1+", "1*", "1-", "1 or ", "1 and ", "0=0 and ", "not 1 or "};
    for (String piece : pieces) {
      StringBuilder line = new StringBuilder(head);
      while (line.length() + piece.length() + 1 + tail.length() <= 160) {
        line.append(piece);
      }
      line.append("1").append(tail);
      MiddleOfCourt x = full();
      DUE.is("text " + line, Due.text(x, line.toString()), 1);
      x.force(1);
      DUE.is("it flies", x.shot(0, 0, 1) >= 0 ? 1 : 0, 1);
    }
    String deep = "flies 1 or 1 and 1 < 1 + 1 * (1 or 1 and 1 < 1 + 1 * (1 or 1 and 1 < 1 + 1 * ("
        + "0 or 1 and 1 < 1 + 1 * (1 or 1 and 1 < 1 + 1 * (far)))));steps 0;slips 0;";
    MiddleOfCourt x = full();
    DUE.is("deep", Due.text(x, deep), 1);
    x.force(1);
    DUE.is("deep", x.shot(0, 0, 1), 1);
  }

  private static void littleIsMade() {
    ThreadMXBean threads = (ThreadMXBean) ManagementFactory.getThreadMXBean();
    MiddleOfCourt x = full();
    Due.rule(x, "flies 40; steps 9 - quick; slips 3;");
    dearest(x);
    long before = threads.getCurrentThreadAllocatedBytes();
    for (int i = 0; i < 100; i++) {
      dearest(x);
    }
    long made = threads.getCurrentThreadAllocatedBytes() - before;
    DUE.is("bytes made by the dearest calls: " + made, made < 100000 ? 1 : 0, 1);
  }

  private static void dearest(MiddleOfCourt x) {
    x.best(0, 5, 1);
    x.sure(1);
    x.stand(0, 0);
    x.tires(0);
    x.sheet(3, 0, 4);
    x.balls(3, 0);
    x.quicks(1, 0, 0);
    x.quicks(1, 2, 0);
    x.chance(1, 20, 0);
    x.film(3, 1);
    x.rally(1, 0);
    x.likely(1);
    x.image();
    x.back();
    x.copy(1, 0, 3, 0, 40);
    Due.feed(x, "flies 1; steps 2; slips 12345;");
    x.text();
  }
}
