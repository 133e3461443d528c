def x_inp (ws : List Cond) (ps : List Nat) : Bool := ws.length == ps.length && (ws.zip ps).all (fun z => decide (lw_tbl[z.2]? = some z.1) && goodWord z.1)
def x_par (y : MethodName) (n : Nat) : Bool := decide (y.cls ≠ "java/lang/invoke/MethodHandle") && decide (y.cls ≠ "java/lang/invoke/VarHandle") && decide ((parseMethodDescriptor y.desc).map (fun d => d.parameters.length) = some n)
def x_hh (M : Nat) : List (Nat × Nat × Nat × Nat) := (x_hs M).map (fun z => (z.1, z.2.1, z.2.2.1, z.2.2.2.1))
def x_noh (M : Nat) : Bool := (x_hs M).isEmpty
def x_cw (M : Nat) : Cond := if x_noh M = true then .code (x_y M) (x_code M) (x_nl M) (x_ret M) else .codeWith (x_y M) (x_code M) (x_nl M) (x_ret M) (x_hh M)
set_option maxRecDepth 1000000 in
theorem x_cwm0 : lw_tbl[96]? = some (x_cw 0) := rfl
set_option maxRecDepth 1000000 in
theorem x_cwm1 : lw_tbl[388]? = some (x_cw 1) := rfl
set_option maxRecDepth 1000000 in
theorem x_cwm2 : lw_tbl[510]? = some (x_cw 2) := rfl
set_option maxRecDepth 1000000 in
theorem x_cwm3 : lw_tbl[588]? = some (x_cw 3) := rfl
set_option maxRecDepth 1000000 in
theorem x_cwm4 : lw_tbl[524]? = some (x_cw 4) := rfl
set_option maxRecDepth 1000000 in
theorem x_cwm5 : lw_tbl[626]? = some (x_cw 5) := rfl
set_option maxRecDepth 1000000 in
theorem x_cwm6 : lw_tbl[575]? = some (x_cw 6) := rfl
set_option maxRecDepth 1000000 in
theorem x_cwm7 : lw_tbl[375]? = some (x_cw 7) := rfl
set_option maxRecDepth 1000000 in
theorem x_cwm8 : lw_tbl[355]? = some (x_cw 8) := rfl
set_option maxRecDepth 1000000 in
theorem x_cwm9 : lw_tbl[1045]? = some (x_cw 9) := rfl
set_option maxRecDepth 1000000 in
theorem x_cwm10 : lw_tbl[845]? = some (x_cw 10) := rfl
set_option maxRecDepth 1000000 in
theorem x_cwm11 : lw_tbl[363]? = some (x_cw 11) := rfl
set_option maxRecDepth 1000000 in
theorem x_cwm12 : lw_tbl[857]? = some (x_cw 12) := rfl
set_option maxRecDepth 1000000 in
theorem x_cwm13 : lw_tbl[415]? = some (x_cw 13) := rfl
set_option maxRecDepth 1000000 in
theorem x_cwm14 : lw_tbl[534]? = some (x_cw 14) := rfl
set_option maxRecDepth 1000000 in
theorem x_cwm15 : lw_tbl[643]? = some (x_cw 15) := rfl
set_option maxRecDepth 1000000 in
theorem x_cwm16 : lw_tbl[639]? = some (x_cw 16) := rfl
set_option maxRecDepth 1000000 in
theorem x_cwm100 : lw_tbl[251]? = some (x_cw 100) := rfl
set_option maxRecDepth 1000000 in
theorem x_cwm101 : lw_tbl[407]? = some (x_cw 101) := rfl
set_option maxRecDepth 1000000 in
theorem x_cwm102 : lw_tbl[506]? = some (x_cw 102) := rfl
set_option maxRecDepth 1000000 in
theorem x_cwm103 : lw_tbl[545]? = some (x_cw 103) := rfl
set_option maxRecDepth 1000000 in
theorem x_cwm104 : lw_tbl[556]? = some (x_cw 104) := rfl
set_option maxRecDepth 1000000 in
theorem x_cwm105 : lw_tbl[567]? = some (x_cw 105) := rfl
set_option maxRecDepth 1000000 in
theorem x_cwm106 : lw_tbl[661]? = some (x_cw 106) := rfl
set_option maxRecDepth 1000000 in
theorem x_cwm107 : lw_tbl[520]? = some (x_cw 107) := rfl
set_option maxRecDepth 1000000 in
theorem x_cwm108 : lw_tbl[631]? = some (x_cw 108) := rfl
set_option maxRecDepth 1000000 in
theorem x_cwm109 : lw_tbl[635]? = some (x_cw 109) := rfl
set_option maxRecDepth 1000000 in
theorem x_cwm110 : lw_tbl[530]? = some (x_cw 110) := rfl
set_option maxRecDepth 1000000 in
theorem x_cwm200 : lw_tbl[297]? = some (x_cw 200) := rfl
set_option maxRecDepth 1000000 in
theorem x_cwm201 : lw_tbl[885]? = some (x_cw 201) := rfl
set_option maxRecDepth 1000000 in
theorem x_cwm202 : lw_tbl[971]? = some (x_cw 202) := rfl
set_option maxRecDepth 1000000 in
theorem x_cwm203 : lw_tbl[975]? = some (x_cw 203) := rfl
set_option maxRecDepth 1000000 in
theorem x_cwm204 : lw_tbl[980]? = some (x_cw 204) := rfl
set_option maxRecDepth 1000000 in
theorem x_cwm205 : lw_tbl[896]? = some (x_cw 205) := rfl
set_option maxRecDepth 1000000 in
theorem x_cwm206 : lw_tbl[921]? = some (x_cw 206) := rfl
set_option maxRecDepth 1000000 in
theorem x_cwm207 : lw_tbl[962]? = some (x_cw 207) := rfl
set_option maxRecDepth 1000000 in
theorem x_cwm208 : lw_tbl[899]? = some (x_cw 208) := rfl
set_option maxRecDepth 1000000 in
theorem x_cwm300 : lw_tbl[267]? = some (x_cw 300) := rfl
set_option maxRecDepth 1000000 in
theorem x_cwm301 : lw_tbl[403]? = some (x_cw 301) := rfl
set_option maxRecDepth 1000000 in
theorem x_cwm302 : lw_tbl[495]? = some (x_cw 302) := rfl
set_option maxRecDepth 1000000 in
theorem x_cwm303 : lw_tbl[984]? = some (x_cw 303) := rfl
set_option maxRecDepth 1000000 in
theorem x_cwm304 : lw_tbl[1068]? = some (x_cw 304) := rfl
set_option maxRecDepth 1000000 in
theorem x_cwm305 : lw_tbl[384]? = some (x_cw 305) := rfl
set_option maxRecDepth 1000000 in
theorem x_cwm306 : lw_tbl[1081]? = some (x_cw 306) := rfl
set_option maxRecDepth 1000000 in
theorem x_cwm400 : lw_tbl[228]? = some (x_cw 400) := rfl
set_option maxRecDepth 1000000 in
theorem x_cwm401 : lw_tbl[411]? = some (x_cw 401) := rfl
set_option maxRecDepth 1000000 in
theorem x_cwm500 : lw_tbl[170]? = some (x_cw 500) := rfl
set_option maxRecDepth 1000000 in
theorem x_cwm501 : lw_tbl[571]? = some (x_cw 501) := rfl
set_option maxRecDepth 1000000 in
theorem x_cwm502 : lw_tbl[781]? = some (x_cw 502) := rfl
set_option maxRecDepth 1000000 in
theorem x_cwm503 : lw_tbl[580]? = some (x_cw 503) := rfl
set_option maxRecDepth 1000000 in
theorem x_cwm504 : lw_tbl[622]? = some (x_cw 504) := rfl
set_option maxRecDepth 1000000 in
theorem x_cwm505 : lw_tbl[820]? = some (x_cw 505) := rfl
set_option maxRecDepth 1000000 in
theorem x_cwm506 : lw_tbl[584]? = some (x_cw 506) := rfl
set_option maxRecDepth 1000000 in
theorem x_cwm507 : lw_tbl[592]? = some (x_cw 507) := rfl
set_option maxRecDepth 1000000 in
theorem x_cwm508 : lw_tbl[596]? = some (x_cw 508) := rfl
set_option maxRecDepth 1000000 in
theorem x_cwm509 : lw_tbl[605]? = some (x_cw 509) := rfl
set_option maxRecDepth 1000000 in
theorem x_cwm510 : lw_tbl[601]? = some (x_cw 510) := rfl
set_option maxRecDepth 1000000 in
theorem x_cwm511 : lw_tbl[610]? = some (x_cw 511) := rfl
set_option maxRecDepth 1000000 in
theorem x_cwm512 : lw_tbl[614]? = some (x_cw 512) := rfl
set_option maxRecDepth 1000000 in
theorem x_cwm513 : lw_tbl[618]? = some (x_cw 513) := rfl
set_option maxRecDepth 1000000 in
theorem x_cwm600 : lw_tbl[312]? = some (x_cw 600) := rfl
set_option maxRecDepth 1000000 in
theorem x_cwm601 : lw_tbl[1005]? = some (x_cw 601) := rfl
set_option maxRecDepth 1000000 in
theorem x_cwm602 : lw_tbl[1012]? = some (x_cw 602) := rfl
set_option maxRecDepth 1000000 in
theorem x_cwm603 : lw_tbl[1008]? = some (x_cw 603) := rfl
set_option maxRecDepth 1000000 in
theorem x_cwm700 : lw_tbl[88]? = some (x_cw 700) := rfl
set_option maxRecDepth 1000000 in
theorem x_cwm701 : lw_tbl[399]? = some (x_cw 701) := rfl
set_option maxRecDepth 1000000 in
theorem x_cwm702 : lw_tbl[502]? = some (x_cw 702) := rfl
set_option maxRecDepth 1000000 in
theorem x_cwm703 : lw_tbl[541]? = some (x_cw 703) := rfl
set_option maxRecDepth 1000000 in
theorem x_cwm704 : lw_tbl[552]? = some (x_cw 704) := rfl
set_option maxRecDepth 1000000 in
theorem x_cwm705 : lw_tbl[563]? = some (x_cw 705) := rfl
set_option maxRecDepth 1000000 in
theorem x_cwm706 : lw_tbl[650]? = some (x_cw 706) := rfl
set_option maxRecDepth 1000000 in
theorem x_cwm707 : lw_tbl[657]? = some (x_cw 707) := rfl
set_option maxRecDepth 1000000 in
theorem x_cwm708 : lw_tbl[693]? = some (x_cw 708) := rfl
set_option maxRecDepth 1000000 in
theorem x_cwm709 : lw_tbl[734]? = some (x_cw 709) := rfl
set_option maxRecDepth 1000000 in
theorem x_cwm710 : lw_tbl[747]? = some (x_cw 710) := rfl
set_option maxRecDepth 1000000 in
theorem x_cwm711 : lw_tbl[761]? = some (x_cw 711) := rfl
set_option maxRecDepth 1000000 in
theorem x_cwm712 : lw_tbl[768]? = some (x_cw 712) := rfl
set_option maxRecDepth 1000000 in
theorem x_cwm713 : lw_tbl[777]? = some (x_cw 713) := rfl
set_option maxRecDepth 1000000 in
theorem x_cwm714 : lw_tbl[806]? = some (x_cw 714) := rfl
set_option maxRecDepth 1000000 in
theorem x_cwm715 : lw_tbl[815]? = some (x_cw 715) := rfl
set_option maxRecDepth 1000000 in
theorem x_cwm716 : lw_tbl[827]? = some (x_cw 716) := rfl
set_option maxRecDepth 1000000 in
theorem x_cwm717 : lw_tbl[834]? = some (x_cw 717) := rfl
set_option maxRecDepth 1000000 in
theorem x_cwm718 : lw_tbl[351]? = some (x_cw 718) := rfl
set_option maxRecDepth 1000000 in
theorem x_cwm719 : lw_tbl[359]? = some (x_cw 719) := rfl
set_option maxRecDepth 1000000 in
theorem x_cwm720 : lw_tbl[841]? = some (x_cw 720) := rfl
set_option maxRecDepth 1000000 in
theorem x_cwm721 : lw_tbl[852]? = some (x_cw 721) := rfl
set_option maxRecDepth 1000000 in
theorem x_cwm722 : lw_tbl[865]? = some (x_cw 722) := rfl
set_option maxRecDepth 1000000 in
theorem x_cwm723 : lw_tbl[892]? = some (x_cw 723) := rfl
set_option maxRecDepth 1000000 in
theorem x_cwm724 : lw_tbl[367]? = some (x_cw 724) := rfl
set_option maxRecDepth 1000000 in
theorem x_cwm725 : lw_tbl[992]? = some (x_cw 725) := rfl
set_option maxRecDepth 1000000 in
theorem x_cwm726 : lw_tbl[1001]? = some (x_cw 726) := rfl
set_option maxRecDepth 1000000 in
theorem x_cwm727 : lw_tbl[1019]? = some (x_cw 727) := rfl
set_option maxRecDepth 1000000 in
theorem x_cwm728 : lw_tbl[1041]? = some (x_cw 728) := rfl
set_option maxRecDepth 1000000 in
theorem x_cwm729 : lw_tbl[371]? = some (x_cw 729) := rfl
set_option maxRecDepth 1000000 in
theorem x_cwm730 : lw_tbl[1055]? = some (x_cw 730) := rfl
set_option maxRecDepth 1000000 in
theorem x_cwm731 : lw_tbl[1063]? = some (x_cw 731) := rfl
set_option maxRecDepth 1000000 in
theorem x_cwm732 : lw_tbl[380]? = some (x_cw 732) := rfl
set_option maxRecDepth 1000000 in
theorem x_cwm733 : lw_tbl[1076]? = some (x_cw 733) := rfl
set_option maxRecDepth 1000000 in
theorem x_cwm734 : lw_tbl[419]? = some (x_cw 734) := rfl
set_option maxRecDepth 1000000 in
theorem x_cwm735 : lw_tbl[967]? = some (x_cw 735) := rfl
set_option maxRecDepth 1000000 in
theorem x_cwm736 : lw_tbl[697]? = some (x_cw 736) := rfl
set_option maxRecDepth 1000000 in
theorem x_cwm737 : lw_tbl[738]? = some (x_cw 737) := rfl
set_option maxRecDepth 1000000 in
theorem x_cwm738 : lw_tbl[751]? = some (x_cw 738) := rfl
set_option maxRecDepth 1000000 in
theorem x_cwm739 : lw_tbl[513]? = some (x_cw 739) := rfl
set_option maxRecDepth 1000000 in
theorem x_cwm740 : lw_tbl[516]? = some (x_cw 740) := rfl
set_option maxRecDepth 1000000 in
theorem x_cwm741 : lw_tbl[527]? = some (x_cw 741) := rfl
set_option maxRecDepth 1000000 in
theorem x_cwm800 : lw_tbl[1086]? = some (x_cw 800) := rfl
set_option maxRecDepth 1000000 in
theorem x_cwm801 : lw_tbl[1161]? = some (x_cw 801) := rfl
set_option maxRecDepth 1000000 in
theorem x_cwm802 : lw_tbl[1324]? = some (x_cw 802) := rfl
set_option maxRecDepth 1000000 in
theorem x_cwm803 : lw_tbl[1169]? = some (x_cw 803) := rfl
set_option maxRecDepth 1000000 in
theorem x_cwm804 : lw_tbl[1191]? = some (x_cw 804) := rfl
set_option maxRecDepth 1000000 in
theorem x_cwm805 : lw_tbl[1176]? = some (x_cw 805) := rfl
set_option maxRecDepth 1000000 in
theorem x_cwm806 : lw_tbl[1173]? = some (x_cw 806) := rfl
set_option maxRecDepth 1000000 in
theorem x_cwm807 : lw_tbl[1194]? = some (x_cw 807) := rfl
set_option maxRecDepth 1000000 in
theorem x_cwm808 : lw_tbl[1231]? = some (x_cw 808) := rfl
set_option maxRecDepth 1000000 in
theorem x_cwm809 : lw_tbl[1201]? = some (x_cw 809) := rfl
set_option maxRecDepth 1000000 in
theorem x_cwm810 : lw_tbl[1188]? = some (x_cw 810) := rfl
set_option maxRecDepth 1000000 in
theorem x_cwm811 : lw_tbl[1198]? = some (x_cw 811) := rfl
set_option maxRecDepth 1000000 in
theorem x_cwm812 : lw_tbl[1180]? = some (x_cw 812) := rfl
set_option maxRecDepth 1000000 in
theorem x_cwm813 : lw_tbl[1205]? = some (x_cw 813) := rfl
set_option maxRecDepth 1000000 in
theorem x_cwm814 : lw_tbl[1209]? = some (x_cw 814) := rfl
set_option maxRecDepth 1000000 in
theorem x_cwm815 : lw_tbl[1224]? = some (x_cw 815) := rfl
set_option maxRecDepth 1000000 in
theorem x_cwm816 : lw_tbl[1216]? = some (x_cw 816) := rfl
set_option maxRecDepth 1000000 in
theorem x_cwm817 : lw_tbl[1220]? = some (x_cw 817) := rfl
set_option maxRecDepth 1000000 in
theorem x_cwm818 : lw_tbl[1213]? = some (x_cw 818) := rfl
set_option maxRecDepth 1000000 in
theorem x_cwm819 : lw_tbl[1268]? = some (x_cw 819) := rfl
set_option maxRecDepth 1000000 in
theorem x_cwm820 : lw_tbl[1165]? = some (x_cw 820) := rfl
set_option maxRecDepth 1000000 in
theorem x_cwm821 : lw_tbl[1184]? = some (x_cw 821) := rfl
set_option maxRecDepth 1000000 in
theorem x_cwm822 : lw_tbl[1235]? = some (x_cw 822) := rfl
set_option maxRecDepth 1000000 in
theorem x_cwm823 : lw_tbl[1228]? = some (x_cw 823) := rfl
set_option maxRecDepth 1000000 in
theorem x_cwm824 : lw_tbl[1239]? = some (x_cw 824) := rfl
set_option maxRecDepth 1000000 in
theorem x_cwm825 : lw_tbl[1276]? = some (x_cw 825) := rfl
set_option maxRecDepth 1000000 in
theorem x_cwm826 : lw_tbl[1272]? = some (x_cw 826) := rfl
set_option maxRecDepth 1000000 in
theorem x_cwm827 : lw_tbl[1264]? = some (x_cw 827) := rfl
set_option maxRecDepth 1000000 in
theorem x_cwm828 : lw_tbl[1259]? = some (x_cw 828) := rfl
set_option maxRecDepth 1000000 in
theorem x_cwm829 : lw_tbl[1280]? = some (x_cw 829) := rfl
set_option maxRecDepth 1000000 in
theorem x_cwm830 : lw_tbl[1255]? = some (x_cw 830) := rfl
set_option maxRecDepth 1000000 in
theorem x_cwm831 : lw_tbl[1251]? = some (x_cw 831) := rfl
set_option maxRecDepth 1000000 in
theorem x_cwm832 : lw_tbl[1288]? = some (x_cw 832) := rfl
set_option maxRecDepth 1000000 in
theorem x_cwm833 : lw_tbl[1300]? = some (x_cw 833) := rfl
set_option maxRecDepth 1000000 in
theorem x_cwm834 : lw_tbl[1316]? = some (x_cw 834) := rfl
set_option maxRecDepth 1000000 in
theorem x_cwm835 : lw_tbl[1304]? = some (x_cw 835) := rfl
set_option maxRecDepth 1000000 in
theorem x_cwm836 : lw_tbl[1308]? = some (x_cw 836) := rfl
set_option maxRecDepth 1000000 in
theorem x_cwm837 : lw_tbl[1284]? = some (x_cw 837) := rfl
set_option maxRecDepth 1000000 in
theorem x_cwm838 : lw_tbl[1247]? = some (x_cw 838) := rfl
set_option maxRecDepth 1000000 in
theorem x_cwm839 : lw_tbl[1292]? = some (x_cw 839) := rfl
set_option maxRecDepth 1000000 in
theorem x_cwm840 : lw_tbl[1243]? = some (x_cw 840) := rfl
set_option maxRecDepth 1000000 in
theorem x_cwm841 : lw_tbl[1296]? = some (x_cw 841) := rfl
set_option maxRecDepth 1000000 in
theorem x_cwm842 : lw_tbl[1312]? = some (x_cw 842) := rfl
set_option maxRecDepth 1000000 in
theorem x_cwm843 : lw_tbl[1320]? = some (x_cw 843) := rfl
set_option maxRecDepth 1000000 in
theorem x_cwm844 : lw_tbl[1328]? = some (x_cw 844) := rfl
set_option maxRecDepth 1000000 in
theorem x_cwm845 : lw_tbl[1332]? = some (x_cw 845) := rfl
set_option maxRecDepth 1000000 in
theorem x_cwm846 : lw_tbl[1336]? = some (x_cw 846) := rfl
set_option maxRecDepth 1000000 in
theorem x_cwm847 : lw_tbl[1340]? = some (x_cw 847) := rfl
set_option maxRecDepth 1000000 in
theorem x_cwm848 : lw_tbl[1348]? = some (x_cw 848) := rfl
set_option maxRecDepth 1000000 in
theorem x_cwm849 : lw_tbl[1344]? = some (x_cw 849) := rfl
set_option maxRecDepth 1000000 in
theorem x_cwm850 : lw_tbl[1352]? = some (x_cw 850) := rfl
set_option maxRecDepth 1000000 in
theorem x_cwm851 : lw_tbl[1356]? = some (x_cw 851) := rfl
set_option maxRecDepth 1000000 in
theorem x_cwm852 : lw_tbl[1360]? = some (x_cw 852) := rfl
set_option maxRecDepth 1000000 in
theorem x_cwm853 : lw_tbl[1364]? = some (x_cw 853) := rfl
set_option maxRecDepth 1000000 in
theorem x_cwm854 : lw_tbl[1368]? = some (x_cw 854) := rfl
set_option maxRecDepth 1000000 in
theorem x_cwm855 : lw_tbl[1372]? = some (x_cw 855) := rfl
set_option maxRecDepth 1000000 in
theorem x_cwm856 : lw_tbl[1376]? = some (x_cw 856) := rfl
set_option maxRecDepth 1000000 in
theorem x_cwm857 : lw_tbl[1384]? = some (x_cw 857) := rfl
set_option maxRecDepth 1000000 in
theorem x_cwm858 : lw_tbl[1380]? = some (x_cw 858) := rfl
set_option maxRecDepth 1000000 in
theorem x_cwm859 : lw_tbl[1388]? = some (x_cw 859) := rfl
set_option maxRecDepth 1000000 in
theorem x_cwm860 : lw_tbl[1404]? = some (x_cw 860) := rfl
set_option maxRecDepth 1000000 in
theorem x_cwm861 : lw_tbl[1408]? = some (x_cw 861) := rfl
set_option maxRecDepth 1000000 in
theorem x_cwm862 : lw_tbl[1412]? = some (x_cw 862) := rfl
set_option maxRecDepth 1000000 in
theorem x_cwm863 : lw_tbl[1400]? = some (x_cw 863) := rfl
set_option maxRecDepth 1000000 in
theorem x_cwm864 : lw_tbl[1396]? = some (x_cw 864) := rfl
set_option maxRecDepth 1000000 in
theorem x_cwm865 : lw_tbl[1416]? = some (x_cw 865) := rfl
set_option maxRecDepth 1000000 in
theorem x_cwm866 : lw_tbl[1392]? = some (x_cw 866) := rfl
set_option maxRecDepth 1000000 in
theorem x_cwm867 : lw_tbl[1425]? = some (x_cw 867) := rfl
set_option maxRecDepth 1000000 in
theorem x_cwm868 : lw_tbl[1429]? = some (x_cw 868) := rfl
set_option maxRecDepth 1000000 in
theorem x_cwm869 : lw_tbl[1437]? = some (x_cw 869) := rfl
set_option maxRecDepth 1000000 in
theorem x_cwm870 : lw_tbl[1433]? = some (x_cw 870) := rfl
set_option maxRecDepth 1000000 in
theorem x_cwm871 : lw_tbl[1441]? = some (x_cw 871) := rfl
set_option maxRecDepth 1000000 in
theorem x_cwm872 : lw_tbl[1449]? = some (x_cw 872) := rfl
set_option maxRecDepth 1000000 in
theorem x_cwm873 : lw_tbl[1457]? = some (x_cw 873) := rfl
set_option maxRecDepth 1000000 in
theorem x_cwm874 : lw_tbl[1466]? = some (x_cw 874) := rfl
set_option maxRecDepth 1000000 in
theorem x_cwm875 : lw_tbl[1445]? = some (x_cw 875) := rfl
set_option maxRecDepth 1000000 in
theorem x_cwm876 : lw_tbl[1453]? = some (x_cw 876) := rfl
set_option maxRecDepth 1000000 in
theorem x_cwm877 : lw_tbl[1462]? = some (x_cw 877) := rfl
set_option maxRecDepth 1000000 in
theorem x_cwm878 : lw_tbl[1470]? = some (x_cw 878) := rfl
set_option maxRecDepth 1000000 in
theorem x_cwm879 : lw_tbl[1474]? = some (x_cw 879) := rfl
set_option maxRecDepth 1000000 in
theorem x_cwm880 : lw_tbl[1478]? = some (x_cw 880) := rfl
set_option maxRecDepth 1000000 in
theorem x_cwm900 : lw_tbl[394]? = some (x_cw 900) := rfl
set_option maxRecDepth 1000000 in
theorem x_cwm901 : lw_tbl[498]? = some (x_cw 901) := rfl
set_option maxRecDepth 1000000 in
theorem x_cwm902 : lw_tbl[537]? = some (x_cw 902) := rfl
set_option maxRecDepth 1000000 in
theorem x_cwm903 : lw_tbl[548]? = some (x_cw 903) := rfl
set_option maxRecDepth 1000000 in
theorem x_cwm904 : lw_tbl[559]? = some (x_cw 904) := rfl
set_option maxRecDepth 1000000 in
theorem x_cwm905 : lw_tbl[646]? = some (x_cw 905) := rfl
set_option maxRecDepth 1000000 in
theorem x_cwm906 : lw_tbl[653]? = some (x_cw 906) := rfl
set_option maxRecDepth 1000000 in
theorem x_cwm907 : lw_tbl[664]? = some (x_cw 907) := rfl
set_option maxRecDepth 1000000 in
theorem x_cwm908 : lw_tbl[730]? = some (x_cw 908) := rfl
set_option maxRecDepth 1000000 in
theorem x_cwm909 : lw_tbl[743]? = some (x_cw 909) := rfl
set_option maxRecDepth 1000000 in
theorem x_cwm910 : lw_tbl[757]? = some (x_cw 910) := rfl
set_option maxRecDepth 1000000 in
theorem x_cwm911 : lw_tbl[764]? = some (x_cw 911) := rfl
set_option maxRecDepth 1000000 in
theorem x_cwm912 : lw_tbl[772]? = some (x_cw 912) := rfl
set_option maxRecDepth 1000000 in
theorem x_cwm913 : lw_tbl[802]? = some (x_cw 913) := rfl
set_option maxRecDepth 1000000 in
theorem x_cwm914 : lw_tbl[811]? = some (x_cw 914) := rfl
set_option maxRecDepth 1000000 in
theorem x_cwm915 : lw_tbl[823]? = some (x_cw 915) := rfl
set_option maxRecDepth 1000000 in
theorem x_cwm916 : lw_tbl[830]? = some (x_cw 916) := rfl
set_option maxRecDepth 1000000 in
theorem x_cwm917 : lw_tbl[837]? = some (x_cw 917) := rfl
set_option maxRecDepth 1000000 in
theorem x_cwm918 : lw_tbl[848]? = some (x_cw 918) := rfl
set_option maxRecDepth 1000000 in
theorem x_cwm919 : lw_tbl[860]? = some (x_cw 919) := rfl
set_option maxRecDepth 1000000 in
theorem x_cwm920 : lw_tbl[888]? = some (x_cw 920) := rfl
set_option maxRecDepth 1000000 in
theorem x_cwm921 : lw_tbl[988]? = some (x_cw 921) := rfl
set_option maxRecDepth 1000000 in
theorem x_cwm922 : lw_tbl[997]? = some (x_cw 922) := rfl
set_option maxRecDepth 1000000 in
theorem x_cwm923 : lw_tbl[1015]? = some (x_cw 923) := rfl
set_option maxRecDepth 1000000 in
theorem x_cwm924 : lw_tbl[1023]? = some (x_cw 924) := rfl
set_option maxRecDepth 1000000 in
theorem x_cwm925 : lw_tbl[1051]? = some (x_cw 925) := rfl
set_option maxRecDepth 1000000 in
theorem x_cwm926 : lw_tbl[1059]? = some (x_cw 926) := rfl
set_option maxRecDepth 1000000 in
theorem x_cwm927 : lw_tbl[1072]? = some (x_cw 927) := rfl
def x_mids : List Nat := [0, 1, 2, 3, 4, 5, 6, 7, 8, 9, 10, 11, 12, 13, 14, 15, 16, 100, 101, 102, 103, 104, 105, 106, 107, 108, 109, 110, 200, 201, 202, 203, 204, 205, 206, 207, 208, 300, 301, 302, 303, 304, 305, 306, 400, 401, 500, 501, 502, 503, 504, 505, 506, 507, 508, 509, 510, 511, 512, 513, 600, 601, 602, 603, 700, 701, 702, 703, 704, 705, 706, 707, 708, 709, 710, 711, 712, 713, 714, 715, 716, 717, 718, 719, 720, 721, 722, 723, 724, 725, 726, 727, 728, 729, 730, 731, 732, 733, 734, 735, 736, 737, 738, 739, 740, 741, 800, 801, 802, 803, 804, 805, 806, 807, 808, 809, 810, 811, 812, 813, 814, 815, 816, 817, 818, 819, 820, 821, 822, 823, 824, 825, 826, 827, 828, 829, 830, 831, 832, 833, 834, 835, 836, 837, 838, 839, 840, 841, 842, 843, 844, 845, 846, 847, 848, 849, 850, 851, 852, 853, 854, 855, 856, 857, 858, 859, 860, 861, 862, 863, 864, 865, 866, 867, 868, 869, 870, 871, 872, 873, 874, 875, 876, 877, 878, 879, 880, 900, 901, 902, 903, 904, 905, 906, 907, 908, 909, 910, 911, 912, 913, 914, 915, 916, 917, 918, 919, 920, 921, 922, 923, 924, 925, 926, 927]
set_option maxRecDepth 1000000 in
theorem x_cw_in : ∀ M ∈ x_mids, x_cw M ∈ lw_tbl := List.forall_mem_cons.mpr ⟨List.mem_of_getElem? x_cwm0, List.forall_mem_cons.mpr ⟨List.mem_of_getElem? x_cwm1, List.forall_mem_cons.mpr ⟨List.mem_of_getElem? x_cwm2, List.forall_mem_cons.mpr ⟨List.mem_of_getElem? x_cwm3, List.forall_mem_cons.mpr ⟨List.mem_of_getElem? x_cwm4, List.forall_mem_cons.mpr ⟨List.mem_of_getElem? x_cwm5, List.forall_mem_cons.mpr ⟨List.mem_of_getElem? x_cwm6, List.forall_mem_cons.mpr ⟨List.mem_of_getElem? x_cwm7, List.forall_mem_cons.mpr ⟨List.mem_of_getElem? x_cwm8, List.forall_mem_cons.mpr ⟨List.mem_of_getElem? x_cwm9, List.forall_mem_cons.mpr ⟨List.mem_of_getElem? x_cwm10, List.forall_mem_cons.mpr ⟨List.mem_of_getElem? x_cwm11, List.forall_mem_cons.mpr ⟨List.mem_of_getElem? x_cwm12, List.forall_mem_cons.mpr ⟨List.mem_of_getElem? x_cwm13, List.forall_mem_cons.mpr ⟨List.mem_of_getElem? x_cwm14, List.forall_mem_cons.mpr ⟨List.mem_of_getElem? x_cwm15, List.forall_mem_cons.mpr ⟨List.mem_of_getElem? x_cwm16, List.forall_mem_cons.mpr ⟨List.mem_of_getElem? x_cwm100, List.forall_mem_cons.mpr ⟨List.mem_of_getElem? x_cwm101, List.forall_mem_cons.mpr ⟨List.mem_of_getElem? x_cwm102, List.forall_mem_cons.mpr ⟨List.mem_of_getElem? x_cwm103, List.forall_mem_cons.mpr ⟨List.mem_of_getElem? x_cwm104, List.forall_mem_cons.mpr ⟨List.mem_of_getElem? x_cwm105, List.forall_mem_cons.mpr ⟨List.mem_of_getElem? x_cwm106, List.forall_mem_cons.mpr ⟨List.mem_of_getElem? x_cwm107, List.forall_mem_cons.mpr ⟨List.mem_of_getElem? x_cwm108, List.forall_mem_cons.mpr ⟨List.mem_of_getElem? x_cwm109, List.forall_mem_cons.mpr ⟨List.mem_of_getElem? x_cwm110, List.forall_mem_cons.mpr ⟨List.mem_of_getElem? x_cwm200, List.forall_mem_cons.mpr ⟨List.mem_of_getElem? x_cwm201, List.forall_mem_cons.mpr ⟨List.mem_of_getElem? x_cwm202, List.forall_mem_cons.mpr ⟨List.mem_of_getElem? x_cwm203, List.forall_mem_cons.mpr ⟨List.mem_of_getElem? x_cwm204, List.forall_mem_cons.mpr ⟨List.mem_of_getElem? x_cwm205, List.forall_mem_cons.mpr ⟨List.mem_of_getElem? x_cwm206, List.forall_mem_cons.mpr ⟨List.mem_of_getElem? x_cwm207, List.forall_mem_cons.mpr ⟨List.mem_of_getElem? x_cwm208, List.forall_mem_cons.mpr ⟨List.mem_of_getElem? x_cwm300, List.forall_mem_cons.mpr ⟨List.mem_of_getElem? x_cwm301, List.forall_mem_cons.mpr ⟨List.mem_of_getElem? x_cwm302, List.forall_mem_cons.mpr ⟨List.mem_of_getElem? x_cwm303, List.forall_mem_cons.mpr ⟨List.mem_of_getElem? x_cwm304, List.forall_mem_cons.mpr ⟨List.mem_of_getElem? x_cwm305, List.forall_mem_cons.mpr ⟨List.mem_of_getElem? x_cwm306, List.forall_mem_cons.mpr ⟨List.mem_of_getElem? x_cwm400, List.forall_mem_cons.mpr ⟨List.mem_of_getElem? x_cwm401, List.forall_mem_cons.mpr ⟨List.mem_of_getElem? x_cwm500, List.forall_mem_cons.mpr ⟨List.mem_of_getElem? x_cwm501, List.forall_mem_cons.mpr ⟨List.mem_of_getElem? x_cwm502, List.forall_mem_cons.mpr ⟨List.mem_of_getElem? x_cwm503, List.forall_mem_cons.mpr ⟨List.mem_of_getElem? x_cwm504, List.forall_mem_cons.mpr ⟨List.mem_of_getElem? x_cwm505, List.forall_mem_cons.mpr ⟨List.mem_of_getElem? x_cwm506, List.forall_mem_cons.mpr ⟨List.mem_of_getElem? x_cwm507, List.forall_mem_cons.mpr ⟨List.mem_of_getElem? x_cwm508, List.forall_mem_cons.mpr ⟨List.mem_of_getElem? x_cwm509, List.forall_mem_cons.mpr ⟨List.mem_of_getElem? x_cwm510, List.forall_mem_cons.mpr ⟨List.mem_of_getElem? x_cwm511, List.forall_mem_cons.mpr ⟨List.mem_of_getElem? x_cwm512, List.forall_mem_cons.mpr ⟨List.mem_of_getElem? x_cwm513, List.forall_mem_cons.mpr ⟨List.mem_of_getElem? x_cwm600, List.forall_mem_cons.mpr ⟨List.mem_of_getElem? x_cwm601, List.forall_mem_cons.mpr ⟨List.mem_of_getElem? x_cwm602, List.forall_mem_cons.mpr ⟨List.mem_of_getElem? x_cwm603, List.forall_mem_cons.mpr ⟨List.mem_of_getElem? x_cwm700, List.forall_mem_cons.mpr ⟨List.mem_of_getElem? x_cwm701, List.forall_mem_cons.mpr ⟨List.mem_of_getElem? x_cwm702, List.forall_mem_cons.mpr ⟨List.mem_of_getElem? x_cwm703, List.forall_mem_cons.mpr ⟨List.mem_of_getElem? x_cwm704, List.forall_mem_cons.mpr ⟨List.mem_of_getElem? x_cwm705, List.forall_mem_cons.mpr ⟨List.mem_of_getElem? x_cwm706, List.forall_mem_cons.mpr ⟨List.mem_of_getElem? x_cwm707, List.forall_mem_cons.mpr ⟨List.mem_of_getElem? x_cwm708, List.forall_mem_cons.mpr ⟨List.mem_of_getElem? x_cwm709, List.forall_mem_cons.mpr ⟨List.mem_of_getElem? x_cwm710, List.forall_mem_cons.mpr ⟨List.mem_of_getElem? x_cwm711, List.forall_mem_cons.mpr ⟨List.mem_of_getElem? x_cwm712, List.forall_mem_cons.mpr ⟨List.mem_of_getElem? x_cwm713, List.forall_mem_cons.mpr ⟨List.mem_of_getElem? x_cwm714, List.forall_mem_cons.mpr ⟨List.mem_of_getElem? x_cwm715, List.forall_mem_cons.mpr ⟨List.mem_of_getElem? x_cwm716, List.forall_mem_cons.mpr ⟨List.mem_of_getElem? x_cwm717, List.forall_mem_cons.mpr ⟨List.mem_of_getElem? x_cwm718, List.forall_mem_cons.mpr ⟨List.mem_of_getElem? x_cwm719, List.forall_mem_cons.mpr ⟨List.mem_of_getElem? x_cwm720, List.forall_mem_cons.mpr ⟨List.mem_of_getElem? x_cwm721, List.forall_mem_cons.mpr ⟨List.mem_of_getElem? x_cwm722, List.forall_mem_cons.mpr ⟨List.mem_of_getElem? x_cwm723, List.forall_mem_cons.mpr ⟨List.mem_of_getElem? x_cwm724, List.forall_mem_cons.mpr ⟨List.mem_of_getElem? x_cwm725, List.forall_mem_cons.mpr ⟨List.mem_of_getElem? x_cwm726, List.forall_mem_cons.mpr ⟨List.mem_of_getElem? x_cwm727, List.forall_mem_cons.mpr ⟨List.mem_of_getElem? x_cwm728, List.forall_mem_cons.mpr ⟨List.mem_of_getElem? x_cwm729, List.forall_mem_cons.mpr ⟨List.mem_of_getElem? x_cwm730, List.forall_mem_cons.mpr ⟨List.mem_of_getElem? x_cwm731, List.forall_mem_cons.mpr ⟨List.mem_of_getElem? x_cwm732, List.forall_mem_cons.mpr ⟨List.mem_of_getElem? x_cwm733, List.forall_mem_cons.mpr ⟨List.mem_of_getElem? x_cwm734, List.forall_mem_cons.mpr ⟨List.mem_of_getElem? x_cwm735, List.forall_mem_cons.mpr ⟨List.mem_of_getElem? x_cwm736, List.forall_mem_cons.mpr ⟨List.mem_of_getElem? x_cwm737, List.forall_mem_cons.mpr ⟨List.mem_of_getElem? x_cwm738, List.forall_mem_cons.mpr ⟨List.mem_of_getElem? x_cwm739, List.forall_mem_cons.mpr ⟨List.mem_of_getElem? x_cwm740, List.forall_mem_cons.mpr ⟨List.mem_of_getElem? x_cwm741, List.forall_mem_cons.mpr ⟨List.mem_of_getElem? x_cwm800, List.forall_mem_cons.mpr ⟨List.mem_of_getElem? x_cwm801, List.forall_mem_cons.mpr ⟨List.mem_of_getElem? x_cwm802, List.forall_mem_cons.mpr ⟨List.mem_of_getElem? x_cwm803, List.forall_mem_cons.mpr ⟨List.mem_of_getElem? x_cwm804, List.forall_mem_cons.mpr ⟨List.mem_of_getElem? x_cwm805, List.forall_mem_cons.mpr ⟨List.mem_of_getElem? x_cwm806, List.forall_mem_cons.mpr ⟨List.mem_of_getElem? x_cwm807, List.forall_mem_cons.mpr ⟨List.mem_of_getElem? x_cwm808, List.forall_mem_cons.mpr ⟨List.mem_of_getElem? x_cwm809, List.forall_mem_cons.mpr ⟨List.mem_of_getElem? x_cwm810, List.forall_mem_cons.mpr ⟨List.mem_of_getElem? x_cwm811, List.forall_mem_cons.mpr ⟨List.mem_of_getElem? x_cwm812, List.forall_mem_cons.mpr ⟨List.mem_of_getElem? x_cwm813, List.forall_mem_cons.mpr ⟨List.mem_of_getElem? x_cwm814, List.forall_mem_cons.mpr ⟨List.mem_of_getElem? x_cwm815, List.forall_mem_cons.mpr ⟨List.mem_of_getElem? x_cwm816, List.forall_mem_cons.mpr ⟨List.mem_of_getElem? x_cwm817, List.forall_mem_cons.mpr ⟨List.mem_of_getElem? x_cwm818, List.forall_mem_cons.mpr ⟨List.mem_of_getElem? x_cwm819, List.forall_mem_cons.mpr ⟨List.mem_of_getElem? x_cwm820, List.forall_mem_cons.mpr ⟨List.mem_of_getElem? x_cwm821, List.forall_mem_cons.mpr ⟨List.mem_of_getElem? x_cwm822, List.forall_mem_cons.mpr ⟨List.mem_of_getElem? x_cwm823, List.forall_mem_cons.mpr ⟨List.mem_of_getElem? x_cwm824, List.forall_mem_cons.mpr ⟨List.mem_of_getElem? x_cwm825, List.forall_mem_cons.mpr ⟨List.mem_of_getElem? x_cwm826, List.forall_mem_cons.mpr ⟨List.mem_of_getElem? x_cwm827, List.forall_mem_cons.mpr ⟨List.mem_of_getElem? x_cwm828, List.forall_mem_cons.mpr ⟨List.mem_of_getElem? x_cwm829, List.forall_mem_cons.mpr ⟨List.mem_of_getElem? x_cwm830, List.forall_mem_cons.mpr ⟨List.mem_of_getElem? x_cwm831, List.forall_mem_cons.mpr ⟨List.mem_of_getElem? x_cwm832, List.forall_mem_cons.mpr ⟨List.mem_of_getElem? x_cwm833, List.forall_mem_cons.mpr ⟨List.mem_of_getElem? x_cwm834, List.forall_mem_cons.mpr ⟨List.mem_of_getElem? x_cwm835, List.forall_mem_cons.mpr ⟨List.mem_of_getElem? x_cwm836, List.forall_mem_cons.mpr ⟨List.mem_of_getElem? x_cwm837, List.forall_mem_cons.mpr ⟨List.mem_of_getElem? x_cwm838, List.forall_mem_cons.mpr ⟨List.mem_of_getElem? x_cwm839, List.forall_mem_cons.mpr ⟨List.mem_of_getElem? x_cwm840, List.forall_mem_cons.mpr ⟨List.mem_of_getElem? x_cwm841, List.forall_mem_cons.mpr ⟨List.mem_of_getElem? x_cwm842, List.forall_mem_cons.mpr ⟨List.mem_of_getElem? x_cwm843, List.forall_mem_cons.mpr ⟨List.mem_of_getElem? x_cwm844, List.forall_mem_cons.mpr ⟨List.mem_of_getElem? x_cwm845, List.forall_mem_cons.mpr ⟨List.mem_of_getElem? x_cwm846, List.forall_mem_cons.mpr ⟨List.mem_of_getElem? x_cwm847, List.forall_mem_cons.mpr ⟨List.mem_of_getElem? x_cwm848, List.forall_mem_cons.mpr ⟨List.mem_of_getElem? x_cwm849, List.forall_mem_cons.mpr ⟨List.mem_of_getElem? x_cwm850, List.forall_mem_cons.mpr ⟨List.mem_of_getElem? x_cwm851, List.forall_mem_cons.mpr ⟨List.mem_of_getElem? x_cwm852, List.forall_mem_cons.mpr ⟨List.mem_of_getElem? x_cwm853, List.forall_mem_cons.mpr ⟨List.mem_of_getElem? x_cwm854, List.forall_mem_cons.mpr ⟨List.mem_of_getElem? x_cwm855, List.forall_mem_cons.mpr ⟨List.mem_of_getElem? x_cwm856, List.forall_mem_cons.mpr ⟨List.mem_of_getElem? x_cwm857, List.forall_mem_cons.mpr ⟨List.mem_of_getElem? x_cwm858, List.forall_mem_cons.mpr ⟨List.mem_of_getElem? x_cwm859, List.forall_mem_cons.mpr ⟨List.mem_of_getElem? x_cwm860, List.forall_mem_cons.mpr ⟨List.mem_of_getElem? x_cwm861, List.forall_mem_cons.mpr ⟨List.mem_of_getElem? x_cwm862, List.forall_mem_cons.mpr ⟨List.mem_of_getElem? x_cwm863, List.forall_mem_cons.mpr ⟨List.mem_of_getElem? x_cwm864, List.forall_mem_cons.mpr ⟨List.mem_of_getElem? x_cwm865, List.forall_mem_cons.mpr ⟨List.mem_of_getElem? x_cwm866, List.forall_mem_cons.mpr ⟨List.mem_of_getElem? x_cwm867, List.forall_mem_cons.mpr ⟨List.mem_of_getElem? x_cwm868, List.forall_mem_cons.mpr ⟨List.mem_of_getElem? x_cwm869, List.forall_mem_cons.mpr ⟨List.mem_of_getElem? x_cwm870, List.forall_mem_cons.mpr ⟨List.mem_of_getElem? x_cwm871, List.forall_mem_cons.mpr ⟨List.mem_of_getElem? x_cwm872, List.forall_mem_cons.mpr ⟨List.mem_of_getElem? x_cwm873, List.forall_mem_cons.mpr ⟨List.mem_of_getElem? x_cwm874, List.forall_mem_cons.mpr ⟨List.mem_of_getElem? x_cwm875, List.forall_mem_cons.mpr ⟨List.mem_of_getElem? x_cwm876, List.forall_mem_cons.mpr ⟨List.mem_of_getElem? x_cwm877, List.forall_mem_cons.mpr ⟨List.mem_of_getElem? x_cwm878, List.forall_mem_cons.mpr ⟨List.mem_of_getElem? x_cwm879, List.forall_mem_cons.mpr ⟨List.mem_of_getElem? x_cwm880, List.forall_mem_cons.mpr ⟨List.mem_of_getElem? x_cwm900, List.forall_mem_cons.mpr ⟨List.mem_of_getElem? x_cwm901, List.forall_mem_cons.mpr ⟨List.mem_of_getElem? x_cwm902, List.forall_mem_cons.mpr ⟨List.mem_of_getElem? x_cwm903, List.forall_mem_cons.mpr ⟨List.mem_of_getElem? x_cwm904, List.forall_mem_cons.mpr ⟨List.mem_of_getElem? x_cwm905, List.forall_mem_cons.mpr ⟨List.mem_of_getElem? x_cwm906, List.forall_mem_cons.mpr ⟨List.mem_of_getElem? x_cwm907, List.forall_mem_cons.mpr ⟨List.mem_of_getElem? x_cwm908, List.forall_mem_cons.mpr ⟨List.mem_of_getElem? x_cwm909, List.forall_mem_cons.mpr ⟨List.mem_of_getElem? x_cwm910, List.forall_mem_cons.mpr ⟨List.mem_of_getElem? x_cwm911, List.forall_mem_cons.mpr ⟨List.mem_of_getElem? x_cwm912, List.forall_mem_cons.mpr ⟨List.mem_of_getElem? x_cwm913, List.forall_mem_cons.mpr ⟨List.mem_of_getElem? x_cwm914, List.forall_mem_cons.mpr ⟨List.mem_of_getElem? x_cwm915, List.forall_mem_cons.mpr ⟨List.mem_of_getElem? x_cwm916, List.forall_mem_cons.mpr ⟨List.mem_of_getElem? x_cwm917, List.forall_mem_cons.mpr ⟨List.mem_of_getElem? x_cwm918, List.forall_mem_cons.mpr ⟨List.mem_of_getElem? x_cwm919, List.forall_mem_cons.mpr ⟨List.mem_of_getElem? x_cwm920, List.forall_mem_cons.mpr ⟨List.mem_of_getElem? x_cwm921, List.forall_mem_cons.mpr ⟨List.mem_of_getElem? x_cwm922, List.forall_mem_cons.mpr ⟨List.mem_of_getElem? x_cwm923, List.forall_mem_cons.mpr ⟨List.mem_of_getElem? x_cwm924, List.forall_mem_cons.mpr ⟨List.mem_of_getElem? x_cwm925, List.forall_mem_cons.mpr ⟨List.mem_of_getElem? x_cwm926, List.forall_mem_cons.mpr ⟨List.mem_of_getElem? x_cwm927, fun _ h => absurd h List.not_mem_nil⟩⟩⟩⟩⟩⟩⟩⟩⟩⟩⟩⟩⟩⟩⟩⟩⟩⟩⟩⟩⟩⟩⟩⟩⟩⟩⟩⟩⟩⟩⟩⟩⟩⟩⟩⟩⟩⟩⟩⟩⟩⟩⟩⟩⟩⟩⟩⟩⟩⟩⟩⟩⟩⟩⟩⟩⟩⟩⟩⟩⟩⟩⟩⟩⟩⟩⟩⟩⟩⟩⟩⟩⟩⟩⟩⟩⟩⟩⟩⟩⟩⟩⟩⟩⟩⟩⟩⟩⟩⟩⟩⟩⟩⟩⟩⟩⟩⟩⟩⟩⟩⟩⟩⟩⟩⟩⟩⟩⟩⟩⟩⟩⟩⟩⟩⟩⟩⟩⟩⟩⟩⟩⟩⟩⟩⟩⟩⟩⟩⟩⟩⟩⟩⟩⟩⟩⟩⟩⟩⟩⟩⟩⟩⟩⟩⟩⟩⟩⟩⟩⟩⟩⟩⟩⟩⟩⟩⟩⟩⟩⟩⟩⟩⟩⟩⟩⟩⟩⟩⟩⟩⟩⟩⟩⟩⟩⟩⟩⟩⟩⟩⟩⟩⟩⟩⟩⟩⟩⟩⟩⟩⟩⟩⟩⟩⟩⟩⟩⟩⟩⟩⟩⟩⟩⟩⟩⟩⟩⟩⟩⟩⟩⟩⟩⟩
theorem x_cw_good (M : Nat) : goodWord (x_cw M) = true := by
  unfold x_cw
  split <;> rfl
set_option maxRecDepth 1000000 in
theorem x_cwl : lw_tbl[911]? = some (.code yJ0_length_8abf5 cJ0_length_8abf5 1 (some .int)) := rfl
set_option maxRecDepth 1000000 in
theorem x_cwe : lw_tbl[907]? = some (.code yJ0_isEmpty_aae02 cJ0_isEmpty_aae02 1 (some .boolean)) := rfl
set_option maxRecDepth 1000000 in
theorem x_cwc : lw_tbl[925]? = some (.code yJ0_charAt_5068e cJ0_charAt_5068e 2 (some .char)) := rfl
