/-! the law: calls 43 to 49 -/
theorem dL_law_1877 : decode cL_law 1877 = .ok (.aload_n 1, 1) := by decide +kernel
theorem dL_law_1878 : decode cL_law 1878 = .ok (.aload_n 0, 1) := by decide +kernel
theorem dL_law_1879 : decode cL_law 1879 = .ok (.iload_n 3, 1) := by decide +kernel
theorem dL_law_1880 : decode cL_law 1880 = .ok (.iconst 1, 1) := by decide +kernel
theorem dL_law_1881 : decode cL_law 1881 = .ok (.iadd, 1) := by decide +kernel
theorem dL_law_1882 : decode cL_law 1882 = .ok (.iaload, 1) := by decide +kernel
theorem dL_law_1883 : decode cL_law 1883 = .ok (.aload_n 0, 1) := by decide +kernel
theorem dL_law_1884 : decode cL_law 1884 = .ok (.iload_n 3, 1) := by decide +kernel
theorem dL_law_1885 : decode cL_law 1885 = .ok (.iconst 2, 1) := by decide +kernel
theorem dL_law_1886 : decode cL_law 1886 = .ok (.iadd, 1) := by decide +kernel
theorem dL_law_1887 : decode cL_law 1887 = .ok (.iaload, 1) := by decide +kernel
theorem dL_law_1888 : decode cL_law 1888 = .ok (.invokevirtual 198, 3) := by decide +kernel
theorem dL_law_1891 : decode cL_law 1891 = .ok (.aload_n 2, 1) := by decide +kernel
theorem dL_law_1892 : decode cL_law 1892 = .ok (.aload_n 0, 1) := by decide +kernel
theorem dL_law_1893 : decode cL_law 1893 = .ok (.iload_n 3, 1) := by decide +kernel
theorem dL_law_1894 : decode cL_law 1894 = .ok (.iconst 1, 1) := by decide +kernel
theorem dL_law_1895 : decode cL_law 1895 = .ok (.iadd, 1) := by decide +kernel
theorem dL_law_1896 : decode cL_law 1896 = .ok (.iaload, 1) := by decide +kernel
theorem dL_law_1897 : decode cL_law 1897 = .ok (.aload_n 0, 1) := by decide +kernel
theorem dL_law_1898 : decode cL_law 1898 = .ok (.iload_n 3, 1) := by decide +kernel
theorem dL_law_1899 : decode cL_law 1899 = .ok (.iconst 2, 1) := by decide +kernel
theorem dL_law_1900 : decode cL_law 1900 = .ok (.iadd, 1) := by decide +kernel
theorem dL_law_1901 : decode cL_law 1901 = .ok (.iaload, 1) := by decide +kernel
theorem dL_law_1902 : decode cL_law 1902 = .ok (.invokevirtual 201, 3) := by decide +kernel
theorem dL_law_1905 : decode cL_law 1905 = .ok (.if_icmp .eq 174, 3) := by decide +kernel
set_option maxHeartbeats 400000 in
set_option maxRecDepth 20000 in
theorem law_43 {E : EV} (hE : EOK E) {q v0 : Nat} (hXS : EXS E q v0) {X : TX} {b L : Nat} {xs : Nat → Int32} (h : CX E X cL_law RL ret room_1 4) (hX : LX X b L xs) (hL : L ≤ 3072) {z : Int} (h0 : 0 ≤ z) (h1 : z ≤ L - 6) {A : AS} (K : ∀ A2 : AS, JL E (LQP E) X 2079 [(3, .int (iI z)), (2, eA E 76), (1, eA E 74), (0, .ref b)] [] (A2, A2)) : JL E (LQP E) X 1877 [(3, .int (iI z)), (2, eA E 76), (1, eA E 74), (0, .ref b)] [] (A, A) := by
  refine j_aload_n h 2 dL_law_1877 rfl rfl ?_
  refine j_aload_n h 3 dL_law_1878 rfl rfl ?_
  refine j_iload_n h 0 dL_law_1879 rfl rfl ?_
  refine j_iconst h dL_law_1880 ?_
  refine j_iadd h dL_law_1881 ?_
  refine j_sld h hX hL (by omega) (by omega) dL_law_1882 ?_
  refine j_aload_n h 3 dL_law_1883 rfl rfl ?_
  refine j_iload_n h 0 dL_law_1884 rfl rfl ?_
  refine j_iconst h dL_law_1885 ?_
  refine j_iadd h dL_law_1886 ?_
  refine j_sld h hX hL (by omega) (by omega) dL_law_1887 ?_
  refine j_callV h (ct_L (fun g0 => p_count hE (okI_of (xs (z + 1).toNat)) (okI_of (xs (z + 2).toNat)))) m_X3_count a_l_L_198 rfl rfl ⟨Nat.le_of_ble_eq_true rfl, Nat.le_of_ble_eq_true rfl⟩ (ci := 3) rfl (by omega) rcL3 rfl rfl (Nat.le_of_ble_eq_true rfl) dL_law_1888 ?_
  refine j_aload_n h 1 dL_law_1891 rfl rfl ?_
  refine j_aload_n h 3 dL_law_1892 rfl rfl ?_
  refine j_iload_n h 0 dL_law_1893 rfl rfl ?_
  refine j_iconst h dL_law_1894 ?_
  refine j_iadd h dL_law_1895 ?_
  refine j_sld h hX hL (by omega) (by omega) dL_law_1896 ?_
  refine j_aload_n h 3 dL_law_1897 rfl rfl ?_
  refine j_iload_n h 0 dL_law_1898 rfl rfl ?_
  refine j_iconst h dL_law_1899 ?_
  refine j_iadd h dL_law_1900 ?_
  refine j_sld h hX hL (by omega) (by omega) dL_law_1901 ?_
  refine j_callV h (ct_R (fun g0 => q_count hE (okI_of (xs (z + 1).toNat)) (okI_of (xs (z + 2).toNat)))) m_X4_count a_l_L_201 rfl rfl ⟨Nat.le_of_ble_eq_true rfl, Nat.le_of_ble_eq_true rfl⟩ (ci := 4) rfl (by omega) rcL4 rfl rfl (Nat.le_of_ble_eq_true rfl) dL_law_1902 ?_
  exact j_rcmp_eq h 2079 dL_law_1905 (by decide) (fun _ => K _) (fun w => absurd rfl w)
theorem dL_law_1910 : decode cL_law 1910 = .ok (.aload_n 1, 1) := by decide +kernel
theorem dL_law_1911 : decode cL_law 1911 = .ok (.aload_n 0, 1) := by decide +kernel
theorem dL_law_1912 : decode cL_law 1912 = .ok (.iload_n 3, 1) := by decide +kernel
theorem dL_law_1913 : decode cL_law 1913 = .ok (.iconst 1, 1) := by decide +kernel
theorem dL_law_1914 : decode cL_law 1914 = .ok (.iadd, 1) := by decide +kernel
theorem dL_law_1915 : decode cL_law 1915 = .ok (.iaload, 1) := by decide +kernel
theorem dL_law_1916 : decode cL_law 1916 = .ok (.aload_n 0, 1) := by decide +kernel
theorem dL_law_1917 : decode cL_law 1917 = .ok (.iload_n 3, 1) := by decide +kernel
theorem dL_law_1918 : decode cL_law 1918 = .ok (.iconst 2, 1) := by decide +kernel
theorem dL_law_1919 : decode cL_law 1919 = .ok (.iadd, 1) := by decide +kernel
theorem dL_law_1920 : decode cL_law 1920 = .ok (.iaload, 1) := by decide +kernel
theorem dL_law_1921 : decode cL_law 1921 = .ok (.invokevirtual 202, 3) := by decide +kernel
theorem dL_law_1924 : decode cL_law 1924 = .ok (.aload_n 2, 1) := by decide +kernel
theorem dL_law_1925 : decode cL_law 1925 = .ok (.aload_n 0, 1) := by decide +kernel
theorem dL_law_1926 : decode cL_law 1926 = .ok (.iload_n 3, 1) := by decide +kernel
theorem dL_law_1927 : decode cL_law 1927 = .ok (.iconst 1, 1) := by decide +kernel
theorem dL_law_1928 : decode cL_law 1928 = .ok (.iadd, 1) := by decide +kernel
theorem dL_law_1929 : decode cL_law 1929 = .ok (.iaload, 1) := by decide +kernel
theorem dL_law_1930 : decode cL_law 1930 = .ok (.aload_n 0, 1) := by decide +kernel
theorem dL_law_1931 : decode cL_law 1931 = .ok (.iload_n 3, 1) := by decide +kernel
theorem dL_law_1932 : decode cL_law 1932 = .ok (.iconst 2, 1) := by decide +kernel
theorem dL_law_1933 : decode cL_law 1933 = .ok (.iadd, 1) := by decide +kernel
theorem dL_law_1934 : decode cL_law 1934 = .ok (.iaload, 1) := by decide +kernel
theorem dL_law_1935 : decode cL_law 1935 = .ok (.invokevirtual 205, 3) := by decide +kernel
theorem dL_law_1938 : decode cL_law 1938 = .ok (.if_icmp .eq 141, 3) := by decide +kernel
set_option maxHeartbeats 400000 in
set_option maxRecDepth 20000 in
theorem law_44 {E : EV} (hE : EOK E) {q v0 : Nat} (hXS : EXS E q v0) {X : TX} {b L : Nat} {xs : Nat → Int32} (h : CX E X cL_law RL ret room_1 4) (hX : LX X b L xs) (hL : L ≤ 3072) {z : Int} (h0 : 0 ≤ z) (h1 : z ≤ L - 6) {A : AS} (K : ∀ A2 : AS, JL E (LQP E) X 2079 [(3, .int (iI z)), (2, eA E 76), (1, eA E 74), (0, .ref b)] [] (A2, A2)) : JL E (LQP E) X 1910 [(3, .int (iI z)), (2, eA E 76), (1, eA E 74), (0, .ref b)] [] (A, A) := by
  refine j_aload_n h 2 dL_law_1910 rfl rfl ?_
  refine j_aload_n h 3 dL_law_1911 rfl rfl ?_
  refine j_iload_n h 0 dL_law_1912 rfl rfl ?_
  refine j_iconst h dL_law_1913 ?_
  refine j_iadd h dL_law_1914 ?_
  refine j_sld h hX hL (by omega) (by omega) dL_law_1915 ?_
  refine j_aload_n h 3 dL_law_1916 rfl rfl ?_
  refine j_iload_n h 0 dL_law_1917 rfl rfl ?_
  refine j_iconst h dL_law_1918 ?_
  refine j_iadd h dL_law_1919 ?_
  refine j_sld h hX hL (by omega) (by omega) dL_law_1920 ?_
  refine j_callV h (ct_L (fun g0 => p_head hE (okI_of (xs (z + 1).toNat)) (okI_of (xs (z + 2).toNat)))) m_X3_head a_l_L_202 rfl rfl ⟨Nat.le_of_ble_eq_true rfl, Nat.le_of_ble_eq_true rfl⟩ (ci := 3) rfl (by omega) rcL3 rfl rfl (Nat.le_of_ble_eq_true rfl) dL_law_1921 ?_
  refine j_aload_n h 1 dL_law_1924 rfl rfl ?_
  refine j_aload_n h 3 dL_law_1925 rfl rfl ?_
  refine j_iload_n h 0 dL_law_1926 rfl rfl ?_
  refine j_iconst h dL_law_1927 ?_
  refine j_iadd h dL_law_1928 ?_
  refine j_sld h hX hL (by omega) (by omega) dL_law_1929 ?_
  refine j_aload_n h 3 dL_law_1930 rfl rfl ?_
  refine j_iload_n h 0 dL_law_1931 rfl rfl ?_
  refine j_iconst h dL_law_1932 ?_
  refine j_iadd h dL_law_1933 ?_
  refine j_sld h hX hL (by omega) (by omega) dL_law_1934 ?_
  refine j_callV h (ct_R (fun g0 => q_head hE (okI_of (xs (z + 1).toNat)) (okI_of (xs (z + 2).toNat)))) m_X4_head a_l_L_205 rfl rfl ⟨Nat.le_of_ble_eq_true rfl, Nat.le_of_ble_eq_true rfl⟩ (ci := 4) rfl (by omega) rcL4 rfl rfl (Nat.le_of_ble_eq_true rfl) dL_law_1935 ?_
  exact j_rcmp_eq h 2079 dL_law_1938 (by decide) (fun _ => K _) (fun w => absurd rfl w)
theorem dL_law_1943 : decode cL_law 1943 = .ok (.aload_n 1, 1) := by decide +kernel
theorem dL_law_1944 : decode cL_law 1944 = .ok (.aload_n 0, 1) := by decide +kernel
theorem dL_law_1945 : decode cL_law 1945 = .ok (.iload_n 3, 1) := by decide +kernel
theorem dL_law_1946 : decode cL_law 1946 = .ok (.iconst 1, 1) := by decide +kernel
theorem dL_law_1947 : decode cL_law 1947 = .ok (.iadd, 1) := by decide +kernel
theorem dL_law_1948 : decode cL_law 1948 = .ok (.iaload, 1) := by decide +kernel
theorem dL_law_1949 : decode cL_law 1949 = .ok (.aload_n 0, 1) := by decide +kernel
theorem dL_law_1950 : decode cL_law 1950 = .ok (.iload_n 3, 1) := by decide +kernel
theorem dL_law_1951 : decode cL_law 1951 = .ok (.iconst 2, 1) := by decide +kernel
theorem dL_law_1952 : decode cL_law 1952 = .ok (.iadd, 1) := by decide +kernel
theorem dL_law_1953 : decode cL_law 1953 = .ok (.iaload, 1) := by decide +kernel
theorem dL_law_1954 : decode cL_law 1954 = .ok (.invokevirtual 206, 3) := by decide +kernel
theorem dL_law_1957 : decode cL_law 1957 = .ok (.aload_n 2, 1) := by decide +kernel
theorem dL_law_1958 : decode cL_law 1958 = .ok (.aload_n 0, 1) := by decide +kernel
theorem dL_law_1959 : decode cL_law 1959 = .ok (.iload_n 3, 1) := by decide +kernel
theorem dL_law_1960 : decode cL_law 1960 = .ok (.iconst 1, 1) := by decide +kernel
theorem dL_law_1961 : decode cL_law 1961 = .ok (.iadd, 1) := by decide +kernel
theorem dL_law_1962 : decode cL_law 1962 = .ok (.iaload, 1) := by decide +kernel
theorem dL_law_1963 : decode cL_law 1963 = .ok (.aload_n 0, 1) := by decide +kernel
theorem dL_law_1964 : decode cL_law 1964 = .ok (.iload_n 3, 1) := by decide +kernel
theorem dL_law_1965 : decode cL_law 1965 = .ok (.iconst 2, 1) := by decide +kernel
theorem dL_law_1966 : decode cL_law 1966 = .ok (.iadd, 1) := by decide +kernel
theorem dL_law_1967 : decode cL_law 1967 = .ok (.iaload, 1) := by decide +kernel
theorem dL_law_1968 : decode cL_law 1968 = .ok (.invokevirtual 209, 3) := by decide +kernel
theorem dL_law_1971 : decode cL_law 1971 = .ok (.if_icmp .eq 108, 3) := by decide +kernel
set_option maxHeartbeats 400000 in
set_option maxRecDepth 20000 in
theorem law_45 {E : EV} (hE : EOK E) {q v0 : Nat} (hXS : EXS E q v0) {X : TX} {b L : Nat} {xs : Nat → Int32} (h : CX E X cL_law RL ret room_1 4) (hX : LX X b L xs) (hL : L ≤ 3072) {z : Int} (h0 : 0 ≤ z) (h1 : z ≤ L - 6) {A : AS} (K : ∀ A2 : AS, JL E (LQP E) X 2079 [(3, .int (iI z)), (2, eA E 76), (1, eA E 74), (0, .ref b)] [] (A2, A2)) : JL E (LQP E) X 1943 [(3, .int (iI z)), (2, eA E 76), (1, eA E 74), (0, .ref b)] [] (A, A) := by
  refine j_aload_n h 2 dL_law_1943 rfl rfl ?_
  refine j_aload_n h 3 dL_law_1944 rfl rfl ?_
  refine j_iload_n h 0 dL_law_1945 rfl rfl ?_
  refine j_iconst h dL_law_1946 ?_
  refine j_iadd h dL_law_1947 ?_
  refine j_sld h hX hL (by omega) (by omega) dL_law_1948 ?_
  refine j_aload_n h 3 dL_law_1949 rfl rfl ?_
  refine j_iload_n h 0 dL_law_1950 rfl rfl ?_
  refine j_iconst h dL_law_1951 ?_
  refine j_iadd h dL_law_1952 ?_
  refine j_sld h hX hL (by omega) (by omega) dL_law_1953 ?_
  refine j_callV h (ct_L (fun g0 => p_foot hE (okI_of (xs (z + 1).toNat)) (okI_of (xs (z + 2).toNat)))) m_X3_foot a_l_L_206 rfl rfl ⟨Nat.le_of_ble_eq_true rfl, Nat.le_of_ble_eq_true rfl⟩ (ci := 3) rfl (by omega) rcL3 rfl rfl (Nat.le_of_ble_eq_true rfl) dL_law_1954 ?_
  refine j_aload_n h 1 dL_law_1957 rfl rfl ?_
  refine j_aload_n h 3 dL_law_1958 rfl rfl ?_
  refine j_iload_n h 0 dL_law_1959 rfl rfl ?_
  refine j_iconst h dL_law_1960 ?_
  refine j_iadd h dL_law_1961 ?_
  refine j_sld h hX hL (by omega) (by omega) dL_law_1962 ?_
  refine j_aload_n h 3 dL_law_1963 rfl rfl ?_
  refine j_iload_n h 0 dL_law_1964 rfl rfl ?_
  refine j_iconst h dL_law_1965 ?_
  refine j_iadd h dL_law_1966 ?_
  refine j_sld h hX hL (by omega) (by omega) dL_law_1967 ?_
  refine j_callV h (ct_R (fun g0 => q_foot hE (okI_of (xs (z + 1).toNat)) (okI_of (xs (z + 2).toNat)))) m_X4_foot a_l_L_209 rfl rfl ⟨Nat.le_of_ble_eq_true rfl, Nat.le_of_ble_eq_true rfl⟩ (ci := 4) rfl (by omega) rcL4 rfl rfl (Nat.le_of_ble_eq_true rfl) dL_law_1968 ?_
  exact j_rcmp_eq h 2079 dL_law_1971 (by decide) (fun _ => K _) (fun w => absurd rfl w)
theorem dL_law_1976 : decode cL_law 1976 = .ok (.aload_n 1, 1) := by decide +kernel
theorem dL_law_1977 : decode cL_law 1977 = .ok (.aload_n 0, 1) := by decide +kernel
theorem dL_law_1978 : decode cL_law 1978 = .ok (.iload_n 3, 1) := by decide +kernel
theorem dL_law_1979 : decode cL_law 1979 = .ok (.iconst 1, 1) := by decide +kernel
theorem dL_law_1980 : decode cL_law 1980 = .ok (.iadd, 1) := by decide +kernel
theorem dL_law_1981 : decode cL_law 1981 = .ok (.iaload, 1) := by decide +kernel
theorem dL_law_1982 : decode cL_law 1982 = .ok (.aload_n 0, 1) := by decide +kernel
theorem dL_law_1983 : decode cL_law 1983 = .ok (.iload_n 3, 1) := by decide +kernel
theorem dL_law_1984 : decode cL_law 1984 = .ok (.iconst 2, 1) := by decide +kernel
theorem dL_law_1985 : decode cL_law 1985 = .ok (.iadd, 1) := by decide +kernel
theorem dL_law_1986 : decode cL_law 1986 = .ok (.iaload, 1) := by decide +kernel
theorem dL_law_1987 : decode cL_law 1987 = .ok (.aload_n 0, 1) := by decide +kernel
theorem dL_law_1988 : decode cL_law 1988 = .ok (.iload_n 3, 1) := by decide +kernel
theorem dL_law_1989 : decode cL_law 1989 = .ok (.iconst 3, 1) := by decide +kernel
theorem dL_law_1990 : decode cL_law 1990 = .ok (.iadd, 1) := by decide +kernel
theorem dL_law_1991 : decode cL_law 1991 = .ok (.iaload, 1) := by decide +kernel
theorem dL_law_1992 : decode cL_law 1992 = .ok (.invokevirtual 210, 3) := by decide +kernel
theorem dL_law_1995 : decode cL_law 1995 = .ok (.aload_n 2, 1) := by decide +kernel
theorem dL_law_1996 : decode cL_law 1996 = .ok (.aload_n 0, 1) := by decide +kernel
theorem dL_law_1997 : decode cL_law 1997 = .ok (.iload_n 3, 1) := by decide +kernel
theorem dL_law_1998 : decode cL_law 1998 = .ok (.iconst 1, 1) := by decide +kernel
theorem dL_law_1999 : decode cL_law 1999 = .ok (.iadd, 1) := by decide +kernel
theorem dL_law_2000 : decode cL_law 2000 = .ok (.iaload, 1) := by decide +kernel
theorem dL_law_2001 : decode cL_law 2001 = .ok (.aload_n 0, 1) := by decide +kernel
theorem dL_law_2002 : decode cL_law 2002 = .ok (.iload_n 3, 1) := by decide +kernel
theorem dL_law_2003 : decode cL_law 2003 = .ok (.iconst 2, 1) := by decide +kernel
theorem dL_law_2004 : decode cL_law 2004 = .ok (.iadd, 1) := by decide +kernel
theorem dL_law_2005 : decode cL_law 2005 = .ok (.iaload, 1) := by decide +kernel
theorem dL_law_2006 : decode cL_law 2006 = .ok (.aload_n 0, 1) := by decide +kernel
theorem dL_law_2007 : decode cL_law 2007 = .ok (.iload_n 3, 1) := by decide +kernel
theorem dL_law_2008 : decode cL_law 2008 = .ok (.iconst 3, 1) := by decide +kernel
theorem dL_law_2009 : decode cL_law 2009 = .ok (.iadd, 1) := by decide +kernel
theorem dL_law_2010 : decode cL_law 2010 = .ok (.iaload, 1) := by decide +kernel
theorem dL_law_2011 : decode cL_law 2011 = .ok (.invokevirtual 213, 3) := by decide +kernel
theorem dL_law_2014 : decode cL_law 2014 = .ok (.if_icmp .eq 65, 3) := by decide +kernel
set_option maxHeartbeats 400000 in
set_option maxRecDepth 20000 in
theorem law_46 {E : EV} (hE : EOK E) {q v0 : Nat} (hXS : EXS E q v0) {X : TX} {b L : Nat} {xs : Nat → Int32} (h : CX E X cL_law RL ret room_1 4) (hX : LX X b L xs) (hL : L ≤ 3072) {z : Int} (h0 : 0 ≤ z) (h1 : z ≤ L - 6) {A : AS} (K : ∀ A2 : AS, JL E (LQP E) X 2079 [(3, .int (iI z)), (2, eA E 76), (1, eA E 74), (0, .ref b)] [] (A2, A2)) : JL E (LQP E) X 1976 [(3, .int (iI z)), (2, eA E 76), (1, eA E 74), (0, .ref b)] [] (A, A) := by
  refine j_aload_n h 2 dL_law_1976 rfl rfl ?_
  refine j_aload_n h 3 dL_law_1977 rfl rfl ?_
  refine j_iload_n h 0 dL_law_1978 rfl rfl ?_
  refine j_iconst h dL_law_1979 ?_
  refine j_iadd h dL_law_1980 ?_
  refine j_sld h hX hL (by omega) (by omega) dL_law_1981 ?_
  refine j_aload_n h 3 dL_law_1982 rfl rfl ?_
  refine j_iload_n h 0 dL_law_1983 rfl rfl ?_
  refine j_iconst h dL_law_1984 ?_
  refine j_iadd h dL_law_1985 ?_
  refine j_sld h hX hL (by omega) (by omega) dL_law_1986 ?_
  refine j_aload_n h 3 dL_law_1987 rfl rfl ?_
  refine j_iload_n h 0 dL_law_1988 rfl rfl ?_
  refine j_iconst h dL_law_1989 ?_
  refine j_iadd h dL_law_1990 ?_
  refine j_sld h hX hL (by omega) (by omega) dL_law_1991 ?_
  refine j_callV h (ct_L (fun g0 => p_holds hE (okI_of (xs (z + 1).toNat)) (okI_of (xs (z + 2).toNat)) (okI_of (xs (z + 3).toNat)))) m_X3_holds a_l_L_210 rfl rfl ⟨Nat.le_of_ble_eq_true rfl, Nat.le_of_ble_eq_true rfl⟩ (ci := 3) rfl (by omega) rcL3 rfl rfl (Nat.le_of_ble_eq_true rfl) dL_law_1992 ?_
  refine j_aload_n h 1 dL_law_1995 rfl rfl ?_
  refine j_aload_n h 3 dL_law_1996 rfl rfl ?_
  refine j_iload_n h 0 dL_law_1997 rfl rfl ?_
  refine j_iconst h dL_law_1998 ?_
  refine j_iadd h dL_law_1999 ?_
  refine j_sld h hX hL (by omega) (by omega) dL_law_2000 ?_
  refine j_aload_n h 3 dL_law_2001 rfl rfl ?_
  refine j_iload_n h 0 dL_law_2002 rfl rfl ?_
  refine j_iconst h dL_law_2003 ?_
  refine j_iadd h dL_law_2004 ?_
  refine j_sld h hX hL (by omega) (by omega) dL_law_2005 ?_
  refine j_aload_n h 3 dL_law_2006 rfl rfl ?_
  refine j_iload_n h 0 dL_law_2007 rfl rfl ?_
  refine j_iconst h dL_law_2008 ?_
  refine j_iadd h dL_law_2009 ?_
  refine j_sld h hX hL (by omega) (by omega) dL_law_2010 ?_
  refine j_callV h (ct_R (fun g0 => q_holds hE (okI_of (xs (z + 1).toNat)) (okI_of (xs (z + 2).toNat)) (okI_of (xs (z + 3).toNat)))) m_X4_holds a_l_L_213 rfl rfl ⟨Nat.le_of_ble_eq_true rfl, Nat.le_of_ble_eq_true rfl⟩ (ci := 4) rfl (by omega) rcL4 rfl rfl (Nat.le_of_ble_eq_true rfl) dL_law_2011 ?_
  exact j_rcmp_eq h 2079 dL_law_2014 (by decide) (fun _ => K _) (fun w => absurd rfl w)
theorem dL_law_2019 : decode cL_law 2019 = .ok (.aload_n 1, 1) := by decide +kernel
theorem dL_law_2020 : decode cL_law 2020 = .ok (.aload_n 0, 1) := by decide +kernel
theorem dL_law_2021 : decode cL_law 2021 = .ok (.iload_n 3, 1) := by decide +kernel
theorem dL_law_2022 : decode cL_law 2022 = .ok (.iconst 1, 1) := by decide +kernel
theorem dL_law_2023 : decode cL_law 2023 = .ok (.iadd, 1) := by decide +kernel
theorem dL_law_2024 : decode cL_law 2024 = .ok (.iaload, 1) := by decide +kernel
theorem dL_law_2025 : decode cL_law 2025 = .ok (.invokevirtual 214, 3) := by decide +kernel
theorem dL_law_2028 : decode cL_law 2028 = .ok (.aload_n 2, 1) := by decide +kernel
theorem dL_law_2029 : decode cL_law 2029 = .ok (.aload_n 0, 1) := by decide +kernel
theorem dL_law_2030 : decode cL_law 2030 = .ok (.iload_n 3, 1) := by decide +kernel
theorem dL_law_2031 : decode cL_law 2031 = .ok (.iconst 1, 1) := by decide +kernel
theorem dL_law_2032 : decode cL_law 2032 = .ok (.iadd, 1) := by decide +kernel
theorem dL_law_2033 : decode cL_law 2033 = .ok (.iaload, 1) := by decide +kernel
theorem dL_law_2034 : decode cL_law 2034 = .ok (.invokevirtual 217, 3) := by decide +kernel
theorem dL_law_2037 : decode cL_law 2037 = .ok (.if_icmp .eq 42, 3) := by decide +kernel
set_option maxHeartbeats 400000 in
set_option maxRecDepth 20000 in
theorem law_47 {E : EV} (hE : EOK E) {q v0 : Nat} (hXS : EXS E q v0) {X : TX} {b L : Nat} {xs : Nat → Int32} (h : CX E X cL_law RL ret room_1 4) (hX : LX X b L xs) (hL : L ≤ 3072) {z : Int} (h0 : 0 ≤ z) (h1 : z ≤ L - 6) {A : AS} (K : ∀ A2 : AS, JL E (LQP E) X 2079 [(3, .int (iI z)), (2, eA E 76), (1, eA E 74), (0, .ref b)] [] (A2, A2)) : JL E (LQP E) X 2019 [(3, .int (iI z)), (2, eA E 76), (1, eA E 74), (0, .ref b)] [] (A, A) := by
  refine j_aload_n h 2 dL_law_2019 rfl rfl ?_
  refine j_aload_n h 3 dL_law_2020 rfl rfl ?_
  refine j_iload_n h 0 dL_law_2021 rfl rfl ?_
  refine j_iconst h dL_law_2022 ?_
  refine j_iadd h dL_law_2023 ?_
  refine j_sld h hX hL (by omega) (by omega) dL_law_2024 ?_
  refine j_callV h (ct_L (fun g0 => p_keep hE (okI_of (xs (z + 1).toNat)))) m_X3_keep a_l_L_214 rfl rfl ⟨Nat.le_of_ble_eq_true rfl, Nat.le_of_ble_eq_true rfl⟩ (ci := 3) rfl (by omega) rcL3 rfl rfl (Nat.le_of_ble_eq_true rfl) dL_law_2025 ?_
  refine j_aload_n h 1 dL_law_2028 rfl rfl ?_
  refine j_aload_n h 3 dL_law_2029 rfl rfl ?_
  refine j_iload_n h 0 dL_law_2030 rfl rfl ?_
  refine j_iconst h dL_law_2031 ?_
  refine j_iadd h dL_law_2032 ?_
  refine j_sld h hX hL (by omega) (by omega) dL_law_2033 ?_
  refine j_callV h (ct_R (fun g0 => q_keep hE (okI_of (xs (z + 1).toNat)))) m_X4_keep a_l_L_217 rfl rfl ⟨Nat.le_of_ble_eq_true rfl, Nat.le_of_ble_eq_true rfl⟩ (ci := 4) rfl (by omega) rcL4 rfl rfl (Nat.le_of_ble_eq_true rfl) dL_law_2034 ?_
  exact j_rcmp_eq h 2079 dL_law_2037 (by decide) (fun _ => K _) (fun w => absurd rfl w)
theorem dL_law_2042 : decode cL_law 2042 = .ok (.aload_n 1, 1) := by decide +kernel
theorem dL_law_2043 : decode cL_law 2043 = .ok (.aload_n 0, 1) := by decide +kernel
theorem dL_law_2044 : decode cL_law 2044 = .ok (.iload_n 3, 1) := by decide +kernel
theorem dL_law_2045 : decode cL_law 2045 = .ok (.iconst 1, 1) := by decide +kernel
theorem dL_law_2046 : decode cL_law 2046 = .ok (.iadd, 1) := by decide +kernel
theorem dL_law_2047 : decode cL_law 2047 = .ok (.iaload, 1) := by decide +kernel
theorem dL_law_2048 : decode cL_law 2048 = .ok (.invokevirtual 218, 3) := by decide +kernel
theorem dL_law_2051 : decode cL_law 2051 = .ok (.aload_n 2, 1) := by decide +kernel
theorem dL_law_2052 : decode cL_law 2052 = .ok (.aload_n 0, 1) := by decide +kernel
theorem dL_law_2053 : decode cL_law 2053 = .ok (.iload_n 3, 1) := by decide +kernel
theorem dL_law_2054 : decode cL_law 2054 = .ok (.iconst 1, 1) := by decide +kernel
theorem dL_law_2055 : decode cL_law 2055 = .ok (.iadd, 1) := by decide +kernel
theorem dL_law_2056 : decode cL_law 2056 = .ok (.iaload, 1) := by decide +kernel
theorem dL_law_2057 : decode cL_law 2057 = .ok (.invokevirtual 221, 3) := by decide +kernel
theorem dL_law_2060 : decode cL_law 2060 = .ok (.if_icmp .eq 19, 3) := by decide +kernel
set_option maxHeartbeats 400000 in
set_option maxRecDepth 20000 in
theorem law_48 {E : EV} (hE : EOK E) {q v0 : Nat} (hXS : EXS E q v0) {X : TX} {b L : Nat} {xs : Nat → Int32} (h : CX E X cL_law RL ret room_1 4) (hX : LX X b L xs) (hL : L ≤ 3072) {z : Int} (h0 : 0 ≤ z) (h1 : z ≤ L - 6) {A : AS} (K : ∀ A2 : AS, JL E (LQP E) X 2079 [(3, .int (iI z)), (2, eA E 76), (1, eA E 74), (0, .ref b)] [] (A2, A2)) : JL E (LQP E) X 2042 [(3, .int (iI z)), (2, eA E 76), (1, eA E 74), (0, .ref b)] [] (A, A) := by
  refine j_aload_n h 2 dL_law_2042 rfl rfl ?_
  refine j_aload_n h 3 dL_law_2043 rfl rfl ?_
  refine j_iload_n h 0 dL_law_2044 rfl rfl ?_
  refine j_iconst h dL_law_2045 ?_
  refine j_iadd h dL_law_2046 ?_
  refine j_sld h hX hL (by omega) (by omega) dL_law_2047 ?_
  refine j_callV h (ct_L (fun g0 => p_back hE (okI_of (xs (z + 1).toNat)))) m_X3_back a_l_L_218 rfl rfl ⟨Nat.le_of_ble_eq_true rfl, Nat.le_of_ble_eq_true rfl⟩ (ci := 3) rfl (by omega) rcL3 rfl rfl (Nat.le_of_ble_eq_true rfl) dL_law_2048 ?_
  refine j_aload_n h 1 dL_law_2051 rfl rfl ?_
  refine j_aload_n h 3 dL_law_2052 rfl rfl ?_
  refine j_iload_n h 0 dL_law_2053 rfl rfl ?_
  refine j_iconst h dL_law_2054 ?_
  refine j_iadd h dL_law_2055 ?_
  refine j_sld h hX hL (by omega) (by omega) dL_law_2056 ?_
  refine j_callV h (ct_R (fun g0 => q_back hE (okI_of (xs (z + 1).toNat)))) m_X4_back a_l_L_221 rfl rfl ⟨Nat.le_of_ble_eq_true rfl, Nat.le_of_ble_eq_true rfl⟩ (ci := 4) rfl (by omega) rcL4 rfl rfl (Nat.le_of_ble_eq_true rfl) dL_law_2057 ?_
  exact j_rcmp_eq h 2079 dL_law_2060 (by decide) (fun _ => K _) (fun w => absurd rfl w)
theorem dL_law_2065 : decode cL_law 2065 = .ok (.aload_n 1, 1) := by decide +kernel
theorem dL_law_2066 : decode cL_law 2066 = .ok (.invokevirtual 222, 3) := by decide +kernel
theorem dL_law_2069 : decode cL_law 2069 = .ok (.aload_n 2, 1) := by decide +kernel
theorem dL_law_2070 : decode cL_law 2070 = .ok (.invokevirtual 226, 3) := by decide +kernel
theorem dL_law_2073 : decode cL_law 2073 = .ok (.lcmp, 1) := by decide +kernel
theorem dL_law_2074 : decode cL_law 2074 = .ok (.ifCond .eq 5, 3) := by decide +kernel
set_option maxHeartbeats 400000 in
set_option maxRecDepth 20000 in
theorem law_49 {E : EV} (hE : EOK E) {q v0 : Nat} (hXS : EXS E q v0) {X : TX} {b L : Nat} {xs : Nat → Int32} (h : CX E X cL_law RL ret room_1 4) (hX : LX X b L xs) (hL : L ≤ 3072) {z : Int} (h0 : 0 ≤ z) (h1 : z ≤ L - 6) {A : AS} (K : ∀ A2 : AS, JL E (LQP E) X 2079 [(3, .int (iI z)), (2, eA E 76), (1, eA E 74), (0, .ref b)] [] (A2, A2)) : JL E (LQP E) X 2065 [(3, .int (iI z)), (2, eA E 76), (1, eA E 74), (0, .ref b)] [] (A, A) := by
  refine j_aload_n h 2 dL_law_2065 rfl rfl ?_
  refine j_callV h (ct_L (fun g0 => p_digest hE)) m_X3_digest a_l_L_222 rfl rfl ⟨Nat.le_of_ble_eq_true rfl, Nat.le_of_ble_eq_true rfl⟩ (ci := 3) rfl (by omega) rcL3 rfl rfl (Nat.le_of_ble_eq_true rfl) dL_law_2066 ?_
  refine j_aload_n h 1 dL_law_2069 rfl rfl ?_
  refine j_callV h (ct_R (fun g0 => q_digest hE)) m_X4_digest a_l_L_226 rfl rfl ⟨Nat.le_of_ble_eq_true rfl, Nat.le_of_ble_eq_true rfl⟩ (ci := 4) rfl (by omega) rcL4 rfl rfl (Nat.le_of_ble_eq_true rfl) dL_law_2070 ?_
  refine j_lcmp h _ dL_law_2073 rfl ?_
  exact j_rif_eq h 2079 dL_law_2074 (by decide) (fun _ => K _) (fun w => absurd (lg_cmp_0.mpr rfl) w)
