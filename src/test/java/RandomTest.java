/** Random runs of calls: every answer is that of the plain house. */
public final class RandomTest {
  public static void main(String[] args) {
    int runs = args.length > 0 ? Integer.parseInt(args[0]) : 300;
    int wrong = 0;
    for (int seed = 1; seed <= runs && wrong == 0; seed++) {
      int largest = seed % 300 == 0 ? 288 : seed % 20 == 0 ? 100 : 36;
      wrong += new RandomRun(seed, largest).run(512);
    }
    System.out.println(wrong == 0 ? runs + " random runs are as due" : "a random run is not as due");
    if (wrong != 0) {
      System.exit(1);
    }
  }
}
