/** A test that does not end fails: it is stopped after some minutes. */
final class Watch implements Runnable {
  private static final long MOST_MILLISECONDS = 300000;
  private final String name;

  private Watch(String name) {
    this.name = name;
  }

  static void over(String name) {
    Thread thread = new Thread(new Watch(name));
    thread.setDaemon(true);
    thread.start();
  }

  @Override
  public void run() {
    try {
      Thread.sleep(MOST_MILLISECONDS);
    } catch (InterruptedException e) {
      return;
    }
    System.out.println(name + ": does not end");
    Runtime.getRuntime().halt(1);
  }
}
