def tL_23 : List (Nat × Instr × Nat) := [(1879, .aload_n 1, 1), (1880, .aload_n 0, 1), (1881, .iload 4, 2), (1883, .iconst 1, 1), (1884, .iadd, 1), (1885, .iaload, 1), (1886, .aload_n 3, 1), (1887, .invokestatic 212, 3), (1890, .istore 5, 2), (1892, .aload_n 2, 1), (1893, .aload_n 0, 1), (1894, .iload 4, 2), (1896, .iconst 1, 1), (1897, .iadd, 1), (1898, .iaload, 1), (1899, .invokevirtual 214, 3), (1902, .istore 6, 2), (1904, .aload_n 2, 1), (1905, .invokevirtual 118, 3), (1908, .iload 5, 2), (1910, .if_icmp .eq 5, 3), (1913, .iconst 0, 1), (1914, .ireturn, 1), (1915, .iload 5, 2), (1917, .ifCond .ne 15, 3), (1920, .aload_n 3, 1), (1921, .iconst 0, 1), (1922, .laload, 1), (1923, .iload 6, 2), (1925, .i2l, 1)]
set_option maxRecDepth 100000 in
theorem tL_23_ok : tL_23.all (fun q => decide (decode cL_law q.1 = .ok (q.2.1, q.2.2))) = true := by decide +kernel
set_option maxRecDepth 100000 in
theorem dL_law_1879 : decode cL_law 1879 = .ok (.aload_n 1, 1) := of_decide_eq_true (List.all_eq_true.mp tL_23_ok (1879, .aload_n 1, 1) (List.mem_of_getElem? (i := 0) rfl))
set_option maxRecDepth 100000 in
theorem dL_law_1880 : decode cL_law 1880 = .ok (.aload_n 0, 1) := of_decide_eq_true (List.all_eq_true.mp tL_23_ok (1880, .aload_n 0, 1) (List.mem_of_getElem? (i := 1) rfl))
set_option maxRecDepth 100000 in
theorem dL_law_1881 : decode cL_law 1881 = .ok (.iload 4, 2) := of_decide_eq_true (List.all_eq_true.mp tL_23_ok (1881, .iload 4, 2) (List.mem_of_getElem? (i := 2) rfl))
set_option maxRecDepth 100000 in
theorem dL_law_1883 : decode cL_law 1883 = .ok (.iconst 1, 1) := of_decide_eq_true (List.all_eq_true.mp tL_23_ok (1883, .iconst 1, 1) (List.mem_of_getElem? (i := 3) rfl))
set_option maxRecDepth 100000 in
theorem dL_law_1884 : decode cL_law 1884 = .ok (.iadd, 1) := of_decide_eq_true (List.all_eq_true.mp tL_23_ok (1884, .iadd, 1) (List.mem_of_getElem? (i := 4) rfl))
set_option maxRecDepth 100000 in
theorem dL_law_1885 : decode cL_law 1885 = .ok (.iaload, 1) := of_decide_eq_true (List.all_eq_true.mp tL_23_ok (1885, .iaload, 1) (List.mem_of_getElem? (i := 5) rfl))
set_option maxRecDepth 100000 in
theorem dL_law_1886 : decode cL_law 1886 = .ok (.aload_n 3, 1) := of_decide_eq_true (List.all_eq_true.mp tL_23_ok (1886, .aload_n 3, 1) (List.mem_of_getElem? (i := 6) rfl))
set_option maxRecDepth 100000 in
theorem dL_law_1887 : decode cL_law 1887 = .ok (.invokestatic 212, 3) := of_decide_eq_true (List.all_eq_true.mp tL_23_ok (1887, .invokestatic 212, 3) (List.mem_of_getElem? (i := 7) rfl))
set_option maxRecDepth 100000 in
theorem dL_law_1890 : decode cL_law 1890 = .ok (.istore 5, 2) := of_decide_eq_true (List.all_eq_true.mp tL_23_ok (1890, .istore 5, 2) (List.mem_of_getElem? (i := 8) rfl))
set_option maxRecDepth 100000 in
theorem dL_law_1892 : decode cL_law 1892 = .ok (.aload_n 2, 1) := of_decide_eq_true (List.all_eq_true.mp tL_23_ok (1892, .aload_n 2, 1) (List.mem_of_getElem? (i := 9) rfl))
set_option maxRecDepth 100000 in
theorem dL_law_1893 : decode cL_law 1893 = .ok (.aload_n 0, 1) := of_decide_eq_true (List.all_eq_true.mp tL_23_ok (1893, .aload_n 0, 1) (List.mem_of_getElem? (i := 10) rfl))
set_option maxRecDepth 100000 in
theorem dL_law_1894 : decode cL_law 1894 = .ok (.iload 4, 2) := of_decide_eq_true (List.all_eq_true.mp tL_23_ok (1894, .iload 4, 2) (List.mem_of_getElem? (i := 11) rfl))
set_option maxRecDepth 100000 in
theorem dL_law_1896 : decode cL_law 1896 = .ok (.iconst 1, 1) := of_decide_eq_true (List.all_eq_true.mp tL_23_ok (1896, .iconst 1, 1) (List.mem_of_getElem? (i := 12) rfl))
set_option maxRecDepth 100000 in
theorem dL_law_1897 : decode cL_law 1897 = .ok (.iadd, 1) := of_decide_eq_true (List.all_eq_true.mp tL_23_ok (1897, .iadd, 1) (List.mem_of_getElem? (i := 13) rfl))
set_option maxRecDepth 100000 in
theorem dL_law_1898 : decode cL_law 1898 = .ok (.iaload, 1) := of_decide_eq_true (List.all_eq_true.mp tL_23_ok (1898, .iaload, 1) (List.mem_of_getElem? (i := 14) rfl))
set_option maxRecDepth 100000 in
theorem dL_law_1899 : decode cL_law 1899 = .ok (.invokevirtual 214, 3) := of_decide_eq_true (List.all_eq_true.mp tL_23_ok (1899, .invokevirtual 214, 3) (List.mem_of_getElem? (i := 15) rfl))
set_option maxRecDepth 100000 in
theorem dL_law_1902 : decode cL_law 1902 = .ok (.istore 6, 2) := of_decide_eq_true (List.all_eq_true.mp tL_23_ok (1902, .istore 6, 2) (List.mem_of_getElem? (i := 16) rfl))
set_option maxRecDepth 100000 in
theorem dL_law_1904 : decode cL_law 1904 = .ok (.aload_n 2, 1) := of_decide_eq_true (List.all_eq_true.mp tL_23_ok (1904, .aload_n 2, 1) (List.mem_of_getElem? (i := 17) rfl))
set_option maxRecDepth 100000 in
theorem dL_law_1905 : decode cL_law 1905 = .ok (.invokevirtual 118, 3) := of_decide_eq_true (List.all_eq_true.mp tL_23_ok (1905, .invokevirtual 118, 3) (List.mem_of_getElem? (i := 18) rfl))
set_option maxRecDepth 100000 in
theorem dL_law_1908 : decode cL_law 1908 = .ok (.iload 5, 2) := of_decide_eq_true (List.all_eq_true.mp tL_23_ok (1908, .iload 5, 2) (List.mem_of_getElem? (i := 19) rfl))
set_option maxRecDepth 100000 in
theorem dL_law_1910 : decode cL_law 1910 = .ok (.if_icmp .eq 5, 3) := of_decide_eq_true (List.all_eq_true.mp tL_23_ok (1910, .if_icmp .eq 5, 3) (List.mem_of_getElem? (i := 20) rfl))
set_option maxRecDepth 100000 in
theorem dL_law_1913 : decode cL_law 1913 = .ok (.iconst 0, 1) := of_decide_eq_true (List.all_eq_true.mp tL_23_ok (1913, .iconst 0, 1) (List.mem_of_getElem? (i := 21) rfl))
set_option maxRecDepth 100000 in
theorem dL_law_1914 : decode cL_law 1914 = .ok (.ireturn, 1) := of_decide_eq_true (List.all_eq_true.mp tL_23_ok (1914, .ireturn, 1) (List.mem_of_getElem? (i := 22) rfl))
set_option maxRecDepth 100000 in
theorem dL_law_1915 : decode cL_law 1915 = .ok (.iload 5, 2) := of_decide_eq_true (List.all_eq_true.mp tL_23_ok (1915, .iload 5, 2) (List.mem_of_getElem? (i := 23) rfl))
set_option maxRecDepth 100000 in
theorem dL_law_1917 : decode cL_law 1917 = .ok (.ifCond .ne 15, 3) := of_decide_eq_true (List.all_eq_true.mp tL_23_ok (1917, .ifCond .ne 15, 3) (List.mem_of_getElem? (i := 24) rfl))
set_option maxRecDepth 100000 in
theorem dL_law_1920 : decode cL_law 1920 = .ok (.aload_n 3, 1) := of_decide_eq_true (List.all_eq_true.mp tL_23_ok (1920, .aload_n 3, 1) (List.mem_of_getElem? (i := 25) rfl))
set_option maxRecDepth 100000 in
theorem dL_law_1921 : decode cL_law 1921 = .ok (.iconst 0, 1) := of_decide_eq_true (List.all_eq_true.mp tL_23_ok (1921, .iconst 0, 1) (List.mem_of_getElem? (i := 26) rfl))
set_option maxRecDepth 100000 in
theorem dL_law_1922 : decode cL_law 1922 = .ok (.laload, 1) := of_decide_eq_true (List.all_eq_true.mp tL_23_ok (1922, .laload, 1) (List.mem_of_getElem? (i := 27) rfl))
set_option maxRecDepth 100000 in
theorem dL_law_1923 : decode cL_law 1923 = .ok (.iload 6, 2) := of_decide_eq_true (List.all_eq_true.mp tL_23_ok (1923, .iload 6, 2) (List.mem_of_getElem? (i := 28) rfl))
set_option maxRecDepth 100000 in
theorem dL_law_1925 : decode cL_law 1925 = .ok (.i2l, 1) := of_decide_eq_true (List.all_eq_true.mp tL_23_ok (1925, .i2l, 1) (List.mem_of_getElem? (i := 29) rfl))
def tL_24 : List (Nat × Instr × Nat) := [(1926, .lcmp, 1), (1927, .ifCond .eq 5, 3), (1930, .iconst 0, 1), (1931, .ireturn, 1), (1932, .goto 59, 3), (1935, .aload_n 1, 1), (1936, .aload_n 0, 1), (1937, .iload 4, 2), (1939, .iconst 1, 1), (1940, .iadd, 1), (1941, .iaload, 1), (1942, .aload_n 3, 1), (1943, .invokestatic 215, 3), (1946, .istore 5, 2), (1948, .aload_n 2, 1), (1949, .aload_n 0, 1), (1950, .iload 4, 2), (1952, .iconst 1, 1), (1953, .iadd, 1), (1954, .iaload, 1), (1955, .invokevirtual 217, 3), (1958, .istore 6, 2), (1960, .aload_n 2, 1), (1961, .invokevirtual 118, 3), (1964, .iload 5, 2), (1966, .if_icmp .eq 5, 3), (1969, .iconst 0, 1), (1970, .ireturn, 1), (1971, .iload 5, 2), (1973, .ifCond .ne 15, 3)]
set_option maxRecDepth 100000 in
theorem tL_24_ok : tL_24.all (fun q => decide (decode cL_law q.1 = .ok (q.2.1, q.2.2))) = true := by decide +kernel
set_option maxRecDepth 100000 in
theorem dL_law_1926 : decode cL_law 1926 = .ok (.lcmp, 1) := of_decide_eq_true (List.all_eq_true.mp tL_24_ok (1926, .lcmp, 1) (List.mem_of_getElem? (i := 0) rfl))
set_option maxRecDepth 100000 in
theorem dL_law_1927 : decode cL_law 1927 = .ok (.ifCond .eq 5, 3) := of_decide_eq_true (List.all_eq_true.mp tL_24_ok (1927, .ifCond .eq 5, 3) (List.mem_of_getElem? (i := 1) rfl))
set_option maxRecDepth 100000 in
theorem dL_law_1930 : decode cL_law 1930 = .ok (.iconst 0, 1) := of_decide_eq_true (List.all_eq_true.mp tL_24_ok (1930, .iconst 0, 1) (List.mem_of_getElem? (i := 2) rfl))
set_option maxRecDepth 100000 in
theorem dL_law_1931 : decode cL_law 1931 = .ok (.ireturn, 1) := of_decide_eq_true (List.all_eq_true.mp tL_24_ok (1931, .ireturn, 1) (List.mem_of_getElem? (i := 3) rfl))
set_option maxRecDepth 100000 in
theorem dL_law_1932 : decode cL_law 1932 = .ok (.goto 59, 3) := of_decide_eq_true (List.all_eq_true.mp tL_24_ok (1932, .goto 59, 3) (List.mem_of_getElem? (i := 4) rfl))
set_option maxRecDepth 100000 in
theorem dL_law_1935 : decode cL_law 1935 = .ok (.aload_n 1, 1) := of_decide_eq_true (List.all_eq_true.mp tL_24_ok (1935, .aload_n 1, 1) (List.mem_of_getElem? (i := 5) rfl))
set_option maxRecDepth 100000 in
theorem dL_law_1936 : decode cL_law 1936 = .ok (.aload_n 0, 1) := of_decide_eq_true (List.all_eq_true.mp tL_24_ok (1936, .aload_n 0, 1) (List.mem_of_getElem? (i := 6) rfl))
set_option maxRecDepth 100000 in
theorem dL_law_1937 : decode cL_law 1937 = .ok (.iload 4, 2) := of_decide_eq_true (List.all_eq_true.mp tL_24_ok (1937, .iload 4, 2) (List.mem_of_getElem? (i := 7) rfl))
set_option maxRecDepth 100000 in
theorem dL_law_1939 : decode cL_law 1939 = .ok (.iconst 1, 1) := of_decide_eq_true (List.all_eq_true.mp tL_24_ok (1939, .iconst 1, 1) (List.mem_of_getElem? (i := 8) rfl))
set_option maxRecDepth 100000 in
theorem dL_law_1940 : decode cL_law 1940 = .ok (.iadd, 1) := of_decide_eq_true (List.all_eq_true.mp tL_24_ok (1940, .iadd, 1) (List.mem_of_getElem? (i := 9) rfl))
set_option maxRecDepth 100000 in
theorem dL_law_1941 : decode cL_law 1941 = .ok (.iaload, 1) := of_decide_eq_true (List.all_eq_true.mp tL_24_ok (1941, .iaload, 1) (List.mem_of_getElem? (i := 10) rfl))
set_option maxRecDepth 100000 in
theorem dL_law_1942 : decode cL_law 1942 = .ok (.aload_n 3, 1) := of_decide_eq_true (List.all_eq_true.mp tL_24_ok (1942, .aload_n 3, 1) (List.mem_of_getElem? (i := 11) rfl))
set_option maxRecDepth 100000 in
theorem dL_law_1943 : decode cL_law 1943 = .ok (.invokestatic 215, 3) := of_decide_eq_true (List.all_eq_true.mp tL_24_ok (1943, .invokestatic 215, 3) (List.mem_of_getElem? (i := 12) rfl))
set_option maxRecDepth 100000 in
theorem dL_law_1946 : decode cL_law 1946 = .ok (.istore 5, 2) := of_decide_eq_true (List.all_eq_true.mp tL_24_ok (1946, .istore 5, 2) (List.mem_of_getElem? (i := 13) rfl))
set_option maxRecDepth 100000 in
theorem dL_law_1948 : decode cL_law 1948 = .ok (.aload_n 2, 1) := of_decide_eq_true (List.all_eq_true.mp tL_24_ok (1948, .aload_n 2, 1) (List.mem_of_getElem? (i := 14) rfl))
set_option maxRecDepth 100000 in
theorem dL_law_1949 : decode cL_law 1949 = .ok (.aload_n 0, 1) := of_decide_eq_true (List.all_eq_true.mp tL_24_ok (1949, .aload_n 0, 1) (List.mem_of_getElem? (i := 15) rfl))
set_option maxRecDepth 100000 in
theorem dL_law_1950 : decode cL_law 1950 = .ok (.iload 4, 2) := of_decide_eq_true (List.all_eq_true.mp tL_24_ok (1950, .iload 4, 2) (List.mem_of_getElem? (i := 16) rfl))
set_option maxRecDepth 100000 in
theorem dL_law_1952 : decode cL_law 1952 = .ok (.iconst 1, 1) := of_decide_eq_true (List.all_eq_true.mp tL_24_ok (1952, .iconst 1, 1) (List.mem_of_getElem? (i := 17) rfl))
set_option maxRecDepth 100000 in
theorem dL_law_1953 : decode cL_law 1953 = .ok (.iadd, 1) := of_decide_eq_true (List.all_eq_true.mp tL_24_ok (1953, .iadd, 1) (List.mem_of_getElem? (i := 18) rfl))
set_option maxRecDepth 100000 in
theorem dL_law_1954 : decode cL_law 1954 = .ok (.iaload, 1) := of_decide_eq_true (List.all_eq_true.mp tL_24_ok (1954, .iaload, 1) (List.mem_of_getElem? (i := 19) rfl))
set_option maxRecDepth 100000 in
theorem dL_law_1955 : decode cL_law 1955 = .ok (.invokevirtual 217, 3) := of_decide_eq_true (List.all_eq_true.mp tL_24_ok (1955, .invokevirtual 217, 3) (List.mem_of_getElem? (i := 20) rfl))
set_option maxRecDepth 100000 in
theorem dL_law_1958 : decode cL_law 1958 = .ok (.istore 6, 2) := of_decide_eq_true (List.all_eq_true.mp tL_24_ok (1958, .istore 6, 2) (List.mem_of_getElem? (i := 21) rfl))
set_option maxRecDepth 100000 in
theorem dL_law_1960 : decode cL_law 1960 = .ok (.aload_n 2, 1) := of_decide_eq_true (List.all_eq_true.mp tL_24_ok (1960, .aload_n 2, 1) (List.mem_of_getElem? (i := 22) rfl))
set_option maxRecDepth 100000 in
theorem dL_law_1961 : decode cL_law 1961 = .ok (.invokevirtual 118, 3) := of_decide_eq_true (List.all_eq_true.mp tL_24_ok (1961, .invokevirtual 118, 3) (List.mem_of_getElem? (i := 23) rfl))
set_option maxRecDepth 100000 in
theorem dL_law_1964 : decode cL_law 1964 = .ok (.iload 5, 2) := of_decide_eq_true (List.all_eq_true.mp tL_24_ok (1964, .iload 5, 2) (List.mem_of_getElem? (i := 24) rfl))
set_option maxRecDepth 100000 in
theorem dL_law_1966 : decode cL_law 1966 = .ok (.if_icmp .eq 5, 3) := of_decide_eq_true (List.all_eq_true.mp tL_24_ok (1966, .if_icmp .eq 5, 3) (List.mem_of_getElem? (i := 25) rfl))
set_option maxRecDepth 100000 in
theorem dL_law_1969 : decode cL_law 1969 = .ok (.iconst 0, 1) := of_decide_eq_true (List.all_eq_true.mp tL_24_ok (1969, .iconst 0, 1) (List.mem_of_getElem? (i := 26) rfl))
set_option maxRecDepth 100000 in
theorem dL_law_1970 : decode cL_law 1970 = .ok (.ireturn, 1) := of_decide_eq_true (List.all_eq_true.mp tL_24_ok (1970, .ireturn, 1) (List.mem_of_getElem? (i := 27) rfl))
set_option maxRecDepth 100000 in
theorem dL_law_1971 : decode cL_law 1971 = .ok (.iload 5, 2) := of_decide_eq_true (List.all_eq_true.mp tL_24_ok (1971, .iload 5, 2) (List.mem_of_getElem? (i := 28) rfl))
set_option maxRecDepth 100000 in
theorem dL_law_1973 : decode cL_law 1973 = .ok (.ifCond .ne 15, 3) := of_decide_eq_true (List.all_eq_true.mp tL_24_ok (1973, .ifCond .ne 15, 3) (List.mem_of_getElem? (i := 29) rfl))
def tL_25 : List (Nat × Instr × Nat) := [(1976, .aload_n 3, 1), (1977, .iconst 0, 1), (1978, .laload, 1), (1979, .iload 6, 2), (1981, .i2l, 1), (1982, .lcmp, 1), (1983, .ifCond .eq 5, 3), (1986, .iconst 0, 1), (1987, .ireturn, 1), (1988, .goto 3, 3), (1991, .iinc 4 4, 3), (1994, .goto (-1971), 3), (1997, .iconst 1, 1), (1998, .ireturn, 1)]
set_option maxRecDepth 100000 in
theorem tL_25_ok : tL_25.all (fun q => decide (decode cL_law q.1 = .ok (q.2.1, q.2.2))) = true := by decide +kernel
set_option maxRecDepth 100000 in
theorem dL_law_1976 : decode cL_law 1976 = .ok (.aload_n 3, 1) := of_decide_eq_true (List.all_eq_true.mp tL_25_ok (1976, .aload_n 3, 1) (List.mem_of_getElem? (i := 0) rfl))
set_option maxRecDepth 100000 in
theorem dL_law_1977 : decode cL_law 1977 = .ok (.iconst 0, 1) := of_decide_eq_true (List.all_eq_true.mp tL_25_ok (1977, .iconst 0, 1) (List.mem_of_getElem? (i := 1) rfl))
set_option maxRecDepth 100000 in
theorem dL_law_1978 : decode cL_law 1978 = .ok (.laload, 1) := of_decide_eq_true (List.all_eq_true.mp tL_25_ok (1978, .laload, 1) (List.mem_of_getElem? (i := 2) rfl))
set_option maxRecDepth 100000 in
theorem dL_law_1979 : decode cL_law 1979 = .ok (.iload 6, 2) := of_decide_eq_true (List.all_eq_true.mp tL_25_ok (1979, .iload 6, 2) (List.mem_of_getElem? (i := 3) rfl))
set_option maxRecDepth 100000 in
theorem dL_law_1981 : decode cL_law 1981 = .ok (.i2l, 1) := of_decide_eq_true (List.all_eq_true.mp tL_25_ok (1981, .i2l, 1) (List.mem_of_getElem? (i := 4) rfl))
set_option maxRecDepth 100000 in
theorem dL_law_1982 : decode cL_law 1982 = .ok (.lcmp, 1) := of_decide_eq_true (List.all_eq_true.mp tL_25_ok (1982, .lcmp, 1) (List.mem_of_getElem? (i := 5) rfl))
set_option maxRecDepth 100000 in
theorem dL_law_1983 : decode cL_law 1983 = .ok (.ifCond .eq 5, 3) := of_decide_eq_true (List.all_eq_true.mp tL_25_ok (1983, .ifCond .eq 5, 3) (List.mem_of_getElem? (i := 6) rfl))
set_option maxRecDepth 100000 in
theorem dL_law_1986 : decode cL_law 1986 = .ok (.iconst 0, 1) := of_decide_eq_true (List.all_eq_true.mp tL_25_ok (1986, .iconst 0, 1) (List.mem_of_getElem? (i := 7) rfl))
set_option maxRecDepth 100000 in
theorem dL_law_1987 : decode cL_law 1987 = .ok (.ireturn, 1) := of_decide_eq_true (List.all_eq_true.mp tL_25_ok (1987, .ireturn, 1) (List.mem_of_getElem? (i := 8) rfl))
set_option maxRecDepth 100000 in
theorem dL_law_1988 : decode cL_law 1988 = .ok (.goto 3, 3) := of_decide_eq_true (List.all_eq_true.mp tL_25_ok (1988, .goto 3, 3) (List.mem_of_getElem? (i := 9) rfl))
set_option maxRecDepth 100000 in
theorem dL_law_1991 : decode cL_law 1991 = .ok (.iinc 4 4, 3) := of_decide_eq_true (List.all_eq_true.mp tL_25_ok (1991, .iinc 4 4, 3) (List.mem_of_getElem? (i := 10) rfl))
set_option maxRecDepth 100000 in
theorem dL_law_1994 : decode cL_law 1994 = .ok (.goto (-1971), 3) := of_decide_eq_true (List.all_eq_true.mp tL_25_ok (1994, .goto (-1971), 3) (List.mem_of_getElem? (i := 11) rfl))
set_option maxRecDepth 100000 in
theorem dL_law_1997 : decode cL_law 1997 = .ok (.iconst 1, 1) := of_decide_eq_true (List.all_eq_true.mp tL_25_ok (1997, .iconst 1, 1) (List.mem_of_getElem? (i := 12) rfl))
set_option maxRecDepth 100000 in
theorem dL_law_1998 : decode cL_law 1998 = .ok (.ireturn, 1) := of_decide_eq_true (List.all_eq_true.mp tL_25_ok (1998, .ireturn, 1) (List.mem_of_getElem? (i := 13) rfl))
