import com.sun.management.ThreadMXBean;
import java.lang.management.ManagementFactory;

/**
 * What all calls of a run make fits into its room of 600,000 objects and arrays and 7.3 million
 * fields and elements: no object is smaller than 16 bytes, and no element of the class than 4.
 */
public final class RoomTest {
  private static final long MOST_BYTES = 600_000L * 16;
  private static final int LINKS = 100;
  private static final ThreadMXBean THREADS =
      (ThreadMXBean) ManagementFactory.getThreadMXBean();

  private static int calls = 0;

  public static void main(String[] args) {
    measured("an object that is not used", 100_000, SequentMill::new);
    measured("terms that share nothing", MOST_BYTES, RoomTest::fillWithTerms);
    Check.same("calls", true, calls <= 512);
    measured("sequents with many hypotheses", MOST_BYTES, RoomTest::fillWithHypotheses);
    Check.same("calls", true, calls <= 512);
    Check.done();
  }

  private static void measured(String name, long most, Runnable run) {
    run.run();
    calls = 0;
    long before = THREADS.getCurrentThreadAllocatedBytes();
    run.run();
    long bytes = THREADS.getCurrentThreadAllocatedBytes() - before;
    Check.same(name + " makes " + bytes + " bytes", true, bytes > 0 && bytes <= most);
  }

  private static int called(int answer) {
    calls++;
    return answer;
  }

  /** From (\y. f0 (f1 (.. y))) z = f0 (f1 (.. z)) as many sequents as there is room for. */
  private static void fillWithTerms() {
    SequentMill x = new SequentMill();
    int any = called(x.typeVariable(0));
    int functions = called(x.type(2, any, any));
    int y = called(x.free(0, any));
    int chain = y;
    for (int i = 0; i < LINKS; i++) {
      int link = called(x.free(i, functions));
      chain = called(x.apply(link, chain));
    }
    int z = called(x.free(1, any));
    int whole = called(x.apply(called(x.abstraction(y, chain)), z));
    int equation = called(x.beta(whole));
    int n = 1;
    while (calls < 510 && retyped(x, equation, n)) {
      n++;
    }
    Check.same("sequents", 20000 / (4 * LINKS + 7), x.size());
  }

  private static boolean retyped(SequentMill x, int equation, int n) {
    try {
      int type = called(x.typeVariable(n));
      called(x.retype(equation, 0, type, 0, type));
      return true;
    } catch (IllegalStateException e) {
      return false;
    }
  }

  private static void fillWithHypotheses() {
    SequentMill x = new SequentMill();
    int truths = called(x.type(0, 0, 0));
    int joined = called(x.assume(called(x.free(0, truths))));
    for (int i = 1; i < 60; i++) {
      int next = called(x.assume(called(x.free(i, truths))));
      joined = called(x.equal(called(x.antisym(next, joined)), next));
    }
    int p = called(x.free(0, truths));
    for (int i = 0; i < 150; i++) {
      called(x.put(joined, p, p));
    }
    Check.same("hypotheses", 60, x.hypotheses(x.size() - 1));
  }
}
